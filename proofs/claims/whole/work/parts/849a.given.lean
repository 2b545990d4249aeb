/-! what a set that fits gives for its answers -/
def zUQ (R : zR) : Prop := ∀ i j, i < R.1 → j < R.1 → zP R i = zP R j → zS R i = zS R j → i = j
def zNN (R : zR) : Prop := ∀ i, i < R.1 → zpl (zP R i) = true ∧ ((zS R i = 1 ∨ zS R i = 2) → znm (zV R i) = true)
theorem zbs_n {R : zR} {p : Nat} (h : zpl p = true) (h2 : zsr p = false) : zbs p = p := by
  rw [zpl_sr h] at h2
  have := of_decide_eq_false h2
  unfold zbs
  split
  · omega
  · rfl
theorem zgv_u {R : zR} {a : Nat} {Z : Nat × (Nat → Nat)} (h : zal (zrf R a Z) R.1 0 = true) : ∀ i, i < R.1 → zun (zbs (zP R i)) a = true := by
  intro i hi
  have w := (zal_c _ _ _).mp h i (by omega) (by omega)
  unfold zrf at w
  rw [Bool.and_eq_true] at w
  exact w.1
theorem zgv_a {R : zR} {a : Nat} {Z : Nat × (Nat → Nat)} (hb : zRB R) (h : zal (zrf R a Z) R.1 0 = true) : zAL R := by
  intro i j hi hj hp hs
  have w := (zal_c _ _ _).mp h i (by omega) (by omega)
  unfold zrf at w
  rw [Bool.and_eq_true, if_pos hs] at w
  rcases Nat.eq_or_lt_of_le (Nat.le_refl i) with _ | _
  · by_cases c : j = i
    · exact c.symm
    · have v := (zct_1 R.1 0 i (by omega) (by omega) (decide_eq_true rfl)).mp (of_decide_eq_true w.2) j (by omega) (by omega) c
      exact absurd (congrArg nI hp.symm) (of_decide_eq_false v)
  · omega
theorem zgv_t {R : zR} {a : Nat} {Z : Nat × (Nat → Nat)} (hb : zRB R) (hN : zNN R) (hU : zUQ R) (h : zal (zrf R a Z) R.1 0 = true) : zTU R := by
  have key : ∀ j, j < R.1 → zS R j = 2 → zbs (zP R j) = zP R j ∧ ∀ l, l < R.1 → zqe R (zP R j) l = false := by
    intro j hj hs
    have w := (zal_c _ _ _).mp h j (by omega) (by omega)
    unfold zrf at w
    rw [Bool.and_eq_true, if_neg (show ¬ zS R j = 1 by omega), if_pos hs, Bool.and_eq_true, Bool.not_eq_true', Bool.not_eq_true'] at w
    refine ⟨@zbs_n R _ (hN j hj).1 w.2.1, fun l hl => ?_⟩
    cases q : zqe R (zP R j) l with
    | false => rfl
    | true =>
      have w2 := w.2.2
      rw [(zan_c (zqe R (zP R j)) R.1 0).mpr ⟨l, by omega, by omega, q⟩] at w2
      cases w2
  intro n hn
  have one : ∀ j l, j < R.1 → l < R.1 → zqr R n j = true → zqr R n l = true → zP R j ≤ zP R l → j = l := by
    intro j l hj hl qj ql hle
    unfold zqr at qj ql
    rw [Bool.and_eq_true, Bool.and_eq_true] at qj ql
    have sj := of_decide_eq_true qj.1
    have sl := of_decide_eq_true ql.1
    by_cases c : zP R l = zP R j
    · exact hU j l hj hl c.symm (sj.trans sl.symm)
    · have v := (key j hj sj).2 l hl
      have v2 := zun_two qj.2.2 ql.2.2 hn hle
      unfold zqe at v
      rw [decide_eq_true c, (key l hl sl).1, v2] at v
      cases v
  intro j l hj hl qj ql
  rcases Nat.le_total (zP R j) (zP R l) with c | c
  · exact one j l hj hl qj ql c
  · exact (one l j hl hj ql qj c).symm
theorem zgv_s {R : zR} {a : Nat} {Z : Nat × (Nat → Nat)} (hb : zRB R) (hN : zNN R) (hU : zUQ R) (h : zal (zrf R a Z) R.1 0 = true) : zFS R := ⟨zgv_t hb hN hU h, fun i hi => (hN i hi).2⟩
