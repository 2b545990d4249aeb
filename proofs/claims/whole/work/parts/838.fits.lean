/-! the reference's fits, and that it says what the class says -/
theorem zand1 {c : Bool} : zb c &&& 1 = zb c := by cases c <;> decide
theorem zand0 {c : Bool} : zb c &&& 0 = zb false := by cases c <;> decide
def zT4 (R : zR) (i : Nat) : Bool := decide (zS R i ≠ 4) || (zrw R (nI (zP R i)) (nI 3)).isSome
def zT3 (R : zR) (a : Nat) (Z : Nat × (Nat → Nat)) (i : Nat) : Bool := decide (zS R i ≠ 3) || (decide (zP R i ≠ a) && zia Z (zV R i) (zP R i))
def zT2 (R : zR) (i : Nat) : Bool := decide (¬ (zS R i = 2 ∨ zS R i = 3 ∨ zS R i = 4)) || (decide (zP R i = 0) || decide (zP R i % 10 ≠ 0))
theorem z9f52 {σ : zt_St} {R : zR} {i : Nat} {b c : Bool} (hn : R.1 ≤ 30) (hR : zRM σ 12 R) (hb : zRB R) (hi : i < R.1) : f_X9_fitsAt_252 σ (zb b) (zb c) (nI (384 + i)) (nI (zP R i)) = some (zb ((c && b) && zT4 R i)) := by
  have b1 := hb i hi
  have e := hR.2 i hi
  have f := @z9find σ 12 R (nI (zP R i)) 3 ⟨by omega, hn⟩ hR
  have f : f_X9_find σ 12 (nI (zP R i)) 3 = some (oI 384 (zrw R (nI (zP R i)) (nI 3))) := f
  have e2 : σ 105 (384 + i) = nI (zS R i) := e.2.1
  have k4 : nI (zS R i) = 4 ↔ zS R i = 4 := nI_eq (b := 4) (by omega) (by decide)
  unfold f_X9_fitsAt_252 f_X9_fitsAt_282 zT4
  rw [zba, f, zbd_s, zgd_i (by omega) (by decide), nI_clamp (by omega), e2]
  simp only [k4]
  cases (c && b) with
  | false => rw [if_pos (show zb false = 0 from rfl), Bool.false_and]; rfl
  | true =>
    rw [if_neg (show ¬ zb true = 0 by decide), Bool.true_and]
    by_cases c4 : zS R i = 4
    · rw [if_pos c4, decide_eq_false (fun w => w c4), Bool.false_or]
      cases hz : zrw R (nI (zP R i)) (nI 3) with
      | none => rw [if_pos (show oI 384 none = -1 from rfl)]; rfl
      | some j =>
        have hj := (zrw_lt hz).1
        rw [if_neg (oI_1 (by omega))]; rfl
    · rw [if_neg c4, decide_eq_true c4, Bool.true_or]; rfl
theorem z9f94 {σ : zt_St} {R : zR} {z i a : Nat} {b c : Bool} {Z : Nat × (Nat → Nat)} (hn : R.1 ≤ 30) (hR : zRM σ 12 R) (hb : zRB R) (hi : i < R.1) (hz : z < Z.1) (ha : Z.2 z = a) (hZ : zZM σ Z) (hB : zZB Z) : f_X9_fitsAt_194 σ (zb b) (zb c) (nI z) (nI (384 + i)) (nI (zP R i)) = some (zb ((c && b) && (zT3 R a Z i && zT4 R i))) := by
  have b1 := hb i hi
  have e := hR.2 i hi
  have e2 : σ 105 (384 + i) = nI (zS R i) := e.2.1
  have e3 : σ 106 (384 + i) = nI (zV R i) := e.2.2.1
  have hZ6 := hB.1
  have ha2 := znm_lt (hB.2.2 z hz)
  rw [ha] at ha2
  have k3 : nI (zS R i) = 3 ↔ zS R i = 3 := nI_eq (b := 3) (by omega) (by decide)
  have t1 := fun (x y : Bool) => @z9f52 σ R i x y hn hR hb hi
  have t247 : ∀ y, f_X9_fitsAt_247 σ (zb y) (nI (384 + i)) (nI (zP R i)) = some (zb (y && zT4 R i)) := fun y => (t1 true y).trans (by rw [Bool.and_true])
  have t251 : ∀ y, f_X9_fitsAt_251 σ (zb y) (nI (384 + i)) (nI (zP R i)) = some (zb false) := fun y => (t1 false y).trans (by rw [Bool.and_false, Bool.false_and])
  unfold f_X9_fitsAt_194
  rw [zba, zgd_i (show 384 + i < 416 by omega) (by decide), nI_clamp (show 384 + i < 2 ^ 31 by omega), e2, t247, t251]
  simp only [zgd_i (show z < 6 by omega) (show 6 < 2 ^ 31 by decide), nI_clamp (show z < 2 ^ 31 by omega), hZ.2 z hz, ha, zgd_i (show 384 + i < 416 by omega) (show 416 < 2 ^ 31 by decide), e3, hZ.1, nI_eq (show zP R i < 2 ^ 31 by omega) (show a < 2 ^ 31 by omega), k3]
  unfold zT3
  by_cases c3 : zS R i = 3
  · rw [if_pos c3, decide_eq_false (fun w => w c3), Bool.false_or]
    by_cases ca : zP R i = a
    · rw [if_pos ca, decide_eq_false (fun w => w ca), Bool.false_and, Bool.false_and, Bool.and_false]
    · rw [if_neg ca, decide_eq_true ca, Bool.true_and]
      unfold zia
      by_cases cv : zV R i < Z.1
      · have b2 := znm_lt (hB.2.2 _ cv)
        rw [if_neg (nI_ge cv (by omega)), zgd_i (show zV R i < 6 by omega) (by decide), nI_clamp (by omega), hZ.2 _ cv]
        simp only [nI_eq (show Z.2 (zV R i) < 2 ^ 31 by omega) (show zP R i < 2 ^ 31 by omega)]
        by_cases cz : Z.2 (zV R i) = zP R i
        · rw [if_pos cz, decide_eq_true ⟨cv, cz⟩, Bool.true_and]
        · rw [if_neg cz, decide_eq_false (fun w => cz w.2), Bool.false_and, Bool.and_false]
      · rw [if_pos (nI_le (by omega) (by omega)), decide_eq_false (fun w => cv w.1), Bool.false_and, Bool.and_false]
  · rw [if_neg c3, decide_eq_true c3, Bool.true_or, Bool.true_and]
theorem zs_fta {σ : zt_St} {n : Nat} {a b c d e : Int32} : f_X9_fitsAt_27 σ (n + 1) a b c d e = f_X9_fitsAt_27b σ (f_X9_fitsAt_27 σ n) a b c d e := rfl
theorem z9ftL {σ : zt_St} {R : zR} {z i a : Nat} {Z : Nat × (Nat → Nat)} (hn : R.1 ≤ 30) (hR : zRM σ 12 R) (hb : zRB R) (hi : i < R.1) (hz : z < Z.1) (ha : Z.2 z = a) (hZ : zZM σ Z) (hB : zZB Z) : ∀ d q c m, q + d = R.1 → f_X9_fitsAt_27 σ (m + d + 1) (nI z) (nI (384 + i)) (nI (zP R i)) (zb c) (nI (384 + q)) = some (zb (((c && !(zan (zqf R i) d q)) && zT2 R i) && (zT3 R a Z i && zT4 R i))) := by
  have b1 := hb i hi
  have e := hR.2 i hi
  have e2 : σ 105 (384 + i) = nI (zS R i) := e.2.1
  have k1 : nI (zS R i) = 1 ↔ zS R i = 1 := nI_eq (b := 1) (by omega) (by decide)
  have k2 : nI (zS R i) = 2 ↔ zS R i = 2 := nI_eq (b := 2) (by omega) (by decide)
  have k3 : nI (zS R i) = 3 ↔ zS R i = 3 := nI_eq (b := 3) (by omega) (by decide)
  have k4 : nI (zS R i) = 4 ↔ zS R i = 4 := nI_eq (b := 4) (by omega) (by decide)
  intro d
  induction d with
  | zero =>
    intro q c m h
    have t94 := fun (x : Bool) => @z9f94 σ R z i a x c Z hn hR hb hi hz ha hZ hB
    have t189 : f_X9_fitsAt_189 σ (zb c) (nI z) (nI (384 + i)) (nI (zP R i)) = some (zb (c && (zT3 R a Z i && zT4 R i))) := (t94 true).trans (by rw [Bool.and_true])
    have t0 : f_X9_fitsAt_194 σ 0 (zb c) (nI z) (nI (384 + i)) (nI (zP R i)) = some (zb false) := (t94 false).trans (by rw [Bool.and_false, Bool.false_and])
    have t178 : f_X9_fitsAt_178 σ (zb c) (nI z) (nI (384 + i)) (nI (zP R i)) = some (zb ((c && (decide (zP R i = 0) || decide (zP R i % 10 ≠ 0))) && (zT3 R a Z i && zT4 R i))) := by
      unfold f_X9_fitsAt_178
      rw [t189, t0, zl_10, zrm (show zP R i < 2 ^ 31 by omega), zl_0]
      simp only [nI_eq (show zP R i < 2 ^ 31 by omega) (show 0 < 2 ^ 31 by decide), nI_eq (show zP R i % 10 < 2 ^ 31 by omega) (show 0 < 2 ^ 31 by decide)]
      by_cases c0 : zP R i = 0
      · rw [if_pos c0, decide_eq_true c0, Bool.true_or, Bool.and_true]
      · rw [if_neg c0, decide_eq_false c0, Bool.false_or]
        by_cases c1 : zP R i % 10 = 0
        · rw [if_pos c1, decide_eq_false (fun w => w c1), Bool.and_false, Bool.false_and]
        · rw [if_neg c1, decide_eq_true c1, Bool.and_true]
    rw [zs_fta]
    unfold f_X9_fitsAt_27b
    rw [zc12, hR.1, zl_384, nI_add, if_pos (nI_le (by omega) (by omega)), zgd_i (by omega) (by decide), zgd_i (by omega) (by decide), zgd_i (by omega) (by decide), nI_clamp (by omega), e2, t178, t189]
    simp only [k2, k3, k4]
    show _ = some (zb (((c && true) && zT2 R i) && (zT3 R a Z i && zT4 R i)))
    rw [Bool.and_true]
    unfold zT2
    by_cases c2 : zS R i = 2
    · rw [if_pos c2, decide_eq_false (show ¬ ¬ (zS R i = 2 ∨ zS R i = 3 ∨ zS R i = 4) by omega), Bool.false_or]
    · rw [if_neg c2]
      by_cases c3 : zS R i = 3
      · rw [if_pos c3, decide_eq_false (show ¬ ¬ (zS R i = 2 ∨ zS R i = 3 ∨ zS R i = 4) by omega), Bool.false_or]
      · rw [if_neg c3]
        by_cases c4 : zS R i = 4
        · rw [if_pos c4, decide_eq_false (show ¬ ¬ (zS R i = 2 ∨ zS R i = 3 ∨ zS R i = 4) by omega), Bool.false_or]
        · rw [if_neg c4, decide_eq_true (show ¬ (zS R i = 2 ∨ zS R i = 3 ∨ zS R i = 4) by omega), Bool.true_or, Bool.and_true]
  | succ d ih =>
    intro q c m h
    have b2 := hb q (by omega)
    have eq := hR.2 q (by omega)
    have eq1 : σ 104 (384 + q) = nI (zP R q) := eq.1
    have ic := ih (q + 1) c m (by omega)
    have i0 := ih (q + 1) false m (by omega)
    rw [← Nat.add_assoc] at ic i0
    rw [show m + (d + 1) + 1 = (m + d + 1) + 1 from rfl, zs_fta, zan_s]
    unfold f_X9_fitsAt_27b f_X9_fitsAt_64 f_X9_fitsAt_65 f_X9_fitsAt_84 f_X9_fitsAt_89 f_X9_fitsAt_132 f_X9_fitsAt_137
    rw [zc12, hR.1, zl_384, nI_add, if_neg (nI_ge (by omega) (by omega))]
    simp only [zgd_i (show 384 + q < 416 by omega) (show 416 < 2 ^ 31 by decide), zgd_i (show 384 + i < 416 by omega) (show 416 < 2 ^ 31 by decide), nI_clamp (show 384 + q < 2 ^ 31 by omega), nI_clamp (show 384 + i < 2 ^ 31 by omega), eq1, e2, k1, k2, z9bs (show zP R q < 2 ^ 31 by omega), z9un (zbs_lt b2.1) b1.1, zbd_s, nI_1, zand1, zand0, ic, i0, nI_eq (show 384 + q < 2 ^ 31 by omega) (show 384 + i < 2 ^ 31 by omega), nI_eq (show zP R q < 2 ^ 31 by omega) (show zP R i < 2 ^ 31 by omega), if_true, show ¬ (1 : Int32) = 0 by decide, if_false]
    generalize zan (zqf R i) d (q + 1) = X
    by_cases c1 : zS R i = 1
    · have eqf : zqf R i q = (decide (q ≠ i) && decide (zP R q = zP R i)) := by
        unfold zqf
        rw [decide_eq_true c1, decide_eq_false (show ¬ zS R i = 2 by omega), Bool.false_and, Bool.or_false, Bool.true_and]
      rw [eqf]
      simp only [if_pos c1, if_neg (show ¬ zS R i = 2 by omega)]
      by_cases d1 : q = i
      · rw [if_pos (show 384 + q = 384 + i by omega), decide_eq_false (fun w => w d1), Bool.false_and, Bool.false_or]
      · rw [if_neg (show ¬ 384 + q = 384 + i by omega), decide_eq_true d1, Bool.true_and]
        by_cases d2 : zP R q = zP R i
        · rw [if_pos d2, decide_eq_true d2, Bool.true_or, Bool.not_true, Bool.and_false, Bool.false_and]
        · rw [if_neg d2, decide_eq_false d2, Bool.false_or]
    · have eqf : zqf R i q = (decide (zS R i = 2) && (decide (zP R q ≠ zP R i) && zun (zbs (zP R q)) (zP R i))) := by
        unfold zqf
        rw [decide_eq_false c1, Bool.false_and, Bool.false_or]
      rw [eqf]
      simp only [if_neg c1, ite_self]
      by_cases c2 : zS R i = 2
      · rw [if_pos c2, decide_eq_true c2, Bool.true_and]
        by_cases d2 : zP R q = zP R i
        · rw [if_pos d2, decide_eq_false (fun w => w d2), Bool.false_and, Bool.false_or]
        · rw [if_neg d2, decide_eq_true d2, Bool.true_and]
          cases zun (zbs (zP R q)) (zP R i) with
          | false => rw [if_pos (show zb false = 0 from rfl), Bool.false_or]
          | true => rw [if_neg (show ¬ zb true = 0 by decide), Bool.true_or, Bool.not_true, Bool.and_false, Bool.false_and]
      · rw [if_neg c2, decide_eq_false c2, Bool.false_and, Bool.false_or]
theorem z9fta {σ : zt_St} {R : zR} {z i a : Nat} {Z : Nat × (Nat → Nat)} (hn : R.1 ≤ 30) (hR : zRM σ 12 R) (hb : zRB R) (hi : i < R.1) (hz : z < Z.1) (ha : Z.2 z = a) (hZ : zZM σ Z) (hB : zZB Z) : f_X9_fitsAt σ (nI z) (nI (384 + i)) = some (zb (zrg R a Z i)) := by
  have b1 := hb i hi
  have hZ6 := hB.1
  have ha2 := znm_lt (hB.2.2 z hz)
  have e1 : σ 104 (384 + i) = nI (zP R i) := (hR.2 i hi).1
  unfold f_X9_fitsAt
  rw [zgd_i (by omega) (by decide), nI_clamp (by omega), e1, z9bs (by omega), zbd_s, zgd_i (by omega) (by decide), nI_clamp (by omega), hZ.2 z hz, z9un (zbs_lt b1.1) ha2, zbd_s, zfu R.1 (by omega), zl_384, ha]
  exact z9ftL hn hR hb hi hz ha hZ hB R.1 0 _ _ (by omega)
theorem zs_fts {σ : zt_St} {n : Nat} {a b c : Int32} : f_X9_fits_22 σ (n + 1) a b c = f_X9_fits_22b σ (f_X9_fits_22 σ n) a b c := rfl
theorem z9fsL {σ : zt_St} {R : zR} {z a : Nat} {Z : Nat × (Nat → Nat)} (hn : R.1 ≤ 30) (hR : zRM σ 12 R) (hb : zRB R) (hz : z < Z.1) (ha : Z.2 z = a) (hZ : zZM σ Z) (hB : zZB Z) : ∀ d i c m, i + d = R.1 → f_X9_fits_22 σ (m + d + 1) (nI z) (zb c) (nI (384 + i)) = some (zb (c && zal (zrg R a Z) d i)) := by
  intro d
  induction d with
  | zero =>
    intro i c m h
    rw [zs_fts]
    unfold f_X9_fits_22b
    rw [zc12, hR.1, zl_384, nI_add, if_pos (nI_le (by omega) (by omega)), zbg, zgd_t]
    show some (zb c) = some (zb (c && true))
    rw [Bool.and_true]
  | succ d ih =>
    intro i c m h
    have i1 := ih (i + 1) true m (by omega)
    have i0 := ih (i + 1) false m (by omega)
    rw [← Nat.add_assoc, show zb true = (1 : Int32) from rfl] at i1
    rw [← Nat.add_assoc, show zb false = (0 : Int32) from rfl] at i0
    rw [show m + (d + 1) + 1 = (m + d + 1) + 1 from rfl, zs_fts, zal_s]
    unfold f_X9_fits_22b f_X9_fits_54 f_X9_fits_55
    rw [zc12, hR.1, zl_384, nI_add, if_neg (nI_ge (by omega) (by omega)), z9fta hn hR hb (by omega) hz ha hZ hB, zbd_s, nI_1, i0, i1]
    cases c with
    | false => rw [if_pos (show zb false = 0 from rfl), Bool.false_and, Bool.false_and]
    | true =>
      rw [if_neg (show ¬ zb true = 0 by decide), Bool.true_and]
      cases zrg R a Z i with
      | false => rw [if_pos (show zb false = 0 from rfl), Bool.false_and, Bool.and_false]
      | true => rw [if_neg (show ¬ zb true = 0 by decide), Bool.true_and, Bool.true_and]
theorem z9fit {σ : zt_St} {R : zR} {z a : Nat} {Z : Nat × (Nat → Nat)} (hn : R.1 ≤ 30) (hR : zRM σ 12 R) (hb : zRB R) (hz : z < Z.1) (ha : Z.2 z = a) (hZ : zZM σ Z) (hB : zZB Z) : f_X9_fits σ (nI z) = some (zb (decide (R.1 ≤ 20) && zal (zrg R a Z) R.1 0)) := by
  unfold f_X9_fits f_X9_fits_17
  rw [zc12, hR.1, zl_20, zfu R.1 (by omega), zl_384]
  by_cases c : R.1 ≤ 20
  · rw [if_neg (nI_nlt c (by omega)), decide_eq_true c]
    exact z9fsL hn hR hb hz ha hZ hB R.1 0 true _ (by omega)
  · rw [if_pos (nI_lt (by omega) (by omega)), decide_eq_false c]
    exact z9fsL hn hR hb hz ha hZ hB R.1 0 false _ (by omega)
theorem zct_s {q : Nat → Bool} {d i : Nat} : zct q (d + 1) i = (if q i = true then 1 else 0) + zct q d (i + 1) := rfl
theorem zct_1 {q : Nat → Bool} : ∀ d i l, i ≤ l → l < i + d → q l = true → (zct q d i = 1 ↔ ∀ j, i ≤ j → j < i + d → j ≠ l → q j = false) := by
  intro d
  induction d with
  | zero => intro i l a b; omega
  | succ d ih =>
    intro i l a b c
    rw [zct_s]
    rcases Nat.lt_or_ge i l with w | w
    · have v := ih (i + 1) l w (by omega) c
      have p := (zct_c q d (i + 1)).2.mpr ⟨l, w, by omega, c⟩
      cases h : q i with
      | true =>
        rw [if_pos rfl]
        refine ⟨fun e => by omega, fun f => ?_⟩
        have := f i (Nat.le_refl i) (by omega) (by omega)
        rw [h] at this
        cases this
      | false =>
        rw [if_neg (by decide), Nat.zero_add, v]
        refine ⟨fun f j x y z => ?_, fun f j x y z => f j (by omega) (by omega) z⟩
        rcases Nat.lt_or_ge i j with u | u
        · exact f j u (by omega) z
        · rw [show j = i by omega]; exact h
    · have e : l = i := by omega
      subst e
      rw [if_pos c]
      refine ⟨fun e j x y z => ?_, fun f => ?_⟩
      · cases h : q j with
        | false => rfl
        | true =>
          have := (zct_c q d (l + 1)).2.mpr ⟨j, by omega, by omega, h⟩
          omega
      · have p := (zct_c q d (l + 1)).2
        rcases Nat.eq_zero_or_pos (zct q d (l + 1)) with u | u
        · omega
        · obtain ⟨j, x, y, z⟩ := p.mp u
          have := f j (by omega) (by omega) (by omega)
          rw [z] at this
          cases this
theorem zfit_e {R : zR} {a : Nat} {Z : Nat × (Nat → Nat)} (hb : zRB R) (hp : ∀ i, i < R.1 → zpl (zP R i) = true) (hB : zZB Z) : zal (zrg R a Z) R.1 0 = zal (zrf R a Z) R.1 0 := by
  apply Bool.eq_iff_iff.mpr
  rw [zal_c, zal_c]
  have stn : ∀ v p, zia Z v p = true → p = 0 ∨ p % 10 ≠ 0 := by
    intro v p h
    have w := of_decide_eq_true h
    have n := hB.2.2 v w.1
    rw [w.2] at n
    unfold znm at n
    have := of_decide_eq_true n
    omega
  constructor
  · intro f i _ hi
    have w := f i (by omega) hi
    have hi : i < R.1 := by omega
    unfold zrg at w
    simp only [Bool.and_eq_true, Bool.or_eq_true, Bool.not_eq_true', decide_eq_true_eq] at w
    obtain ⟨⟨⟨w1, w2⟩, w3⟩, w4, w5⟩ := w
    unfold zrf
    rw [w1, Bool.true_and]
    have nz : ∀ q, q < R.1 → zqf R i q = false := by
      intro q hq
      cases h : zqf R i q with
      | false => rfl
      | true =>
        rw [(zan_c (zqf R i) R.1 0).mpr ⟨q, by omega, by omega, h⟩] at w2
        cases w2
    by_cases c1 : zS R i = 1
    · rw [if_pos c1]
      apply decide_eq_true
      refine (zct_1 R.1 0 i (by omega) (by omega) (decide_eq_true rfl)).mpr (fun j _ y z => ?_)
      have := nz j (by omega)
      unfold zqf at this
      rw [decide_eq_true c1, decide_eq_true z, decide_eq_false (show ¬ zS R i = 2 by omega), Bool.false_and, Bool.or_false, Bool.true_and, Bool.true_and] at this
      have g := of_decide_eq_false this
      have b1 := hb i hi
      have b2 := hb j (by omega)
      exact decide_eq_false (fun e => g ((nI_eq (by omega) (by omega)).mp e))
    · rw [if_neg c1]
      by_cases c2 : zS R i = 2
      · rw [if_pos c2, Bool.and_eq_true]
        refine ⟨?_, ?_⟩
        · rw [zpl_sr (hp i hi), Bool.not_eq_true', decide_eq_false]
          omega
        · cases h : zan (zqe R (zP R i)) R.1 0 with
          | false => rfl
          | true =>
            obtain ⟨j, _, y, z⟩ := (zan_c _ _ _).mp h
            have := nz j (by omega)
            unfold zqf at this
            unfold zqe at z
            rw [decide_eq_true c2, z, Bool.true_and, Bool.or_true] at this
            cases this
      · rw [if_neg c2]
        by_cases c3 : zS R i = 3
        · rw [if_pos c3, Bool.and_eq_true, decide_eq_true_eq]
          rcases w4 with w4 | w4
          · exact absurd c3 w4
          · exact w4
        · rw [if_neg c3]
          by_cases c4 : zS R i = 4
          · rw [if_pos c4]
            rcases w5 with w5 | w5
            · exact absurd c4 w5
            · exact w5
          · rw [if_neg c4]
  · intro f i _ hi
    have w := f i (by omega) hi
    have hi : i < R.1 := by omega
    unfold zrf at w
    rw [Bool.and_eq_true] at w
    obtain ⟨w1, w2⟩ := w
    unfold zrg
    simp only [Bool.and_eq_true, Bool.or_eq_true, Bool.not_eq_true', decide_eq_true_eq]
    have no2 : ∀ q, q < R.1 → zqf R i q = false := by
      intro q hq
      unfold zqf
      by_cases c1 : zS R i = 1
      · rw [if_pos c1] at w2
        rw [decide_eq_true c1, decide_eq_false (show ¬ zS R i = 2 by omega), Bool.false_and, Bool.or_false, Bool.true_and]
        by_cases d1 : q = i
        · rw [decide_eq_false (fun x => x d1), Bool.false_and]
        · have v := (zct_1 R.1 0 i (by omega) (by omega) (decide_eq_true rfl)).mp (of_decide_eq_true w2) q (by omega) (by omega) d1
          have v := of_decide_eq_false v
          rw [decide_eq_true d1, Bool.true_and]
          exact decide_eq_false (fun e => v (by rw [e]))
      · rw [decide_eq_false c1, Bool.false_and, Bool.false_or]
        by_cases c2 : zS R i = 2
        · rw [if_neg c1, if_pos c2, Bool.and_eq_true, Bool.not_eq_true', Bool.not_eq_true'] at w2
          rw [decide_eq_true c2, Bool.true_and]
          cases h : (decide (zP R q ≠ zP R i) && zun (zbs (zP R q)) (zP R i)) with
          | false => rfl
          | true =>
            have w3 := w2.2
            rw [(zan_c (zqe R (zP R i)) R.1 0).mpr ⟨q, by omega, by omega, h⟩] at w3
            cases w3
        · rw [decide_eq_false c2, Bool.false_and]
    refine ⟨⟨⟨w1, ?_⟩, ?_⟩, ?_, ?_⟩
    · cases h : zan (zqf R i) R.1 0 with
      | false => rfl
      | true =>
        obtain ⟨j, _, y, z⟩ := (zan_c _ _ _).mp h
        rw [no2 j (by omega)] at z
        cases z
    · by_cases c2 : zS R i = 2
      · rw [if_neg (by omega), if_pos c2, Bool.and_eq_true, Bool.not_eq_true', zpl_sr (hp i hi)] at w2
        have := of_decide_eq_false w2.1
        omega
      · by_cases c3 : zS R i = 3
        · rw [if_neg (by omega), if_neg c2, if_pos c3, Bool.and_eq_true] at w2
          exact Or.inr (stn _ _ w2.2)
        · by_cases c4 : zS R i = 4
          · rw [if_neg (by omega), if_neg c2, if_neg c3, if_pos c4] at w2
            cases hz : zrw R (nI (zP R i)) (nI 3) with
            | none => rw [hz] at w2; cases w2
            | some j =>
              obtain ⟨j1, j2, j3⟩ := zrw_lt hz
              have b1 := hb i hi
              have b2 := hb j j1
              have j2 := (nI_eq (by omega) (by omega)).mp j2
              have j3 := (nI_eq (by omega) (by omega)).mp j3
              have v := f j (by omega) (by omega)
              unfold zrf at v
              rw [if_neg (show ¬ zS R j = 1 by omega), if_neg (show ¬ zS R j = 2 by omega), if_pos j3, Bool.and_eq_true, Bool.and_eq_true] at v
              rw [← j2]
              exact Or.inr (stn _ _ v.2.2)
          · exact Or.inl (by omega)
    · by_cases c3 : zS R i = 3
      · rw [if_neg (by omega), if_neg (by omega), if_pos c3, Bool.and_eq_true, decide_eq_true_eq] at w2
        exact Or.inr w2
      · exact Or.inl c3
    · by_cases c4 : zS R i = 4
      · rw [if_neg (by omega), if_neg (by omega), if_neg (by omega), if_pos c4] at w2
        exact Or.inr w2
      · exact Or.inl c4
