/-! keys and windows, in both -/
def zco (x : Int32) : Int32 := (31 * x + 7) - (31 * x + 7) / 997 * 997
def zkf (x v : Int32) : Bool := !(decide (x = -1)) && decide (zco x = v)
def zwi (f t n : Int32) : Bool := !(decide (n < f)) && !(decide (t < n))
theorem z3nok {x : Int32} : f_X6_numberOfKey x = some (zco x) := by
  unfold f_X6_numberOfKey zco
  rw [Int32.mul_comm x 31]
theorem z9cod {x : Int32} : f_X9_code x = some (zco x) := rfl
theorem z3kf {x v : Int32} : f_X6_isKeyFor x v = some (zb (zkf x v)) := by
  unfold f_X6_isKeyFor zkf
  rw [z3nok, zbd_s]
  by_cases c : x = -1
  · rw [if_pos c, decide_eq_true c]; rfl
  · rw [if_neg c, decide_eq_false c]
    by_cases c2 : zco x = v
    · rw [if_pos c2, decide_eq_true c2]; rfl
    · rw [if_neg c2, decide_eq_false c2]; rfl
theorem z3gf {σ : zt_St} {k0 : Nat} {v n : Int32} : f_X6_isGoodFor σ k0 v n = some (zb ((zkf (σ k0 5) v || zkf (σ k0 6) v) && zwi (σ k0 7) (σ k0 8) n)) := by
  unfold f_X6_isGoodFor f_X6_isGoodFor_20 f_X6_isGoodFor_21 f_X6_isGoodFor_48 zwi
  rw [z3kf, z3kf]
  simp only [zbd_s, if_true, show ¬ (1 : Int32) = 0 by decide, if_false]
  by_cases c1 : n < σ k0 7
  · rw [if_pos c1, decide_eq_true c1, Bool.not_true, Bool.false_and, Bool.and_false]; rfl
  · rw [if_neg c1, decide_eq_false c1, Bool.not_false, Bool.true_and]
    by_cases c2 : σ k0 8 < n
    · rw [if_pos c2, decide_eq_true c2, Bool.not_true, Bool.and_false]; rfl
    · rw [if_neg c2, decide_eq_false c2, Bool.not_false, Bool.and_true]
      cases zkf (σ k0 5) v with
      | true => rw [if_neg (show ¬ zb true = 0 by decide)]; rfl
      | false =>
        rw [if_pos (show zb false = 0 from rfl), Bool.false_or]
        cases zkf (σ k0 6) v with
        | true => rw [if_neg (show ¬ zb true = 0 by decide)]; rfl
        | false => rw [if_pos (show zb false = 0 from rfl)]; rfl
theorem zs_god {σ : zt_St} {n : Nat} {a b c d : Int32} : f_X9_isGood_5 σ (n + 1) a b c d = f_X9_isGood_5b σ (f_X9_isGood_5 σ n) a b c d := rfl
theorem z9gdS {σ : zt_St} {z j m : Nat} {v : Int32} {c : Bool} (hz : z < 6) (hj : j < 2) : f_X9_isGood_5 σ (m + 1) (nI z) v (zb c) (nI j) = f_X9_isGood_5 σ m (nI z) v (zb (c || zkf (σ 100 (2 * z + j)) v)) (nI (j + 1)) := by
  have o1 : zb c ||| 1 = zb true := by cases c <;> decide
  have o0 : zb c ||| 0 = zb c := by cases c <;> decide
  rw [zs_god]
  unfold f_X9_isGood_5b f_X9_isGood_50 f_X9_isGood_51 zkf
  rw [zl_2, if_neg (nI_ge (by omega) (by omega)), pk_mul, nI_add, zgd_i (by omega) (by decide), zgd_i (by omega) (by decide), nI_clamp (by omega), z9cod, zbd_s, o1, o0, nI_1]
  by_cases c1 : σ 100 (2 * z + j) = -1
  · rw [if_pos c1, decide_eq_true c1, Bool.not_true, Bool.false_and, Bool.or_false]
  · rw [if_neg c1, decide_eq_false c1, Bool.not_false, Bool.true_and]
    by_cases c2 : zco (σ 100 (2 * z + j)) = v
    · rw [if_pos c2, decide_eq_true c2, Bool.or_true]
    · rw [if_neg c2, decide_eq_false c2, Bool.or_false]
theorem z9gdE {σ : zt_St} {z m : Nat} {v : Int32} {c : Bool} (hz : z < 6) : f_X9_isGood_5 σ (m + 1) (nI z) v (zb c) (nI 2) = some (zb (c && zwi (σ 101 z) (σ 102 z) (σ 94 1))) := by
  rw [zs_god]
  unfold f_X9_isGood_5b f_X9_in zwi
  rw [if_pos (show (2 : Int32) ≤ nI 2 by decide), zgd_i (by omega) (by decide), zgd_i (by omega) (by decide), nI_clamp (by omega)]
  cases c with
  | false => rw [if_pos (show zb false = 0 from rfl)]; rfl
  | true =>
    rw [if_neg (show ¬ zb true = 0 by decide), Bool.true_and]
    by_cases c1 : σ 94 1 < σ 101 z
    · rw [if_pos c1, decide_eq_true c1]; rfl
    · rw [if_neg c1, decide_eq_false c1]
      by_cases c2 : σ 102 z < σ 94 1
      · rw [if_pos c2, decide_eq_true c2]; rfl
      · rw [if_neg c2, decide_eq_false c2]; rfl
theorem z9gd {σ : zt_St} {z : Nat} {v : Int32} (hz : z < 6) : f_X9_isGood σ (nI z) v = some (zb ((zkf (σ 100 (2 * z)) v || zkf (σ 100 (2 * z + 1)) v) && zwi (σ 101 z) (σ 102 z) (σ 94 1))) := by
  unfold f_X9_isGood
  rw [zfu8, zl_0, show nI 0 = zb false from rfl]
  have a := @z9gdS σ z 0 4999 v false hz (by omega)
  have b := @z9gdS σ z 1 4998 v (false || zkf (σ 100 (2 * z + 0)) v) hz (by omega)
  have c := @z9gdE σ z 4997 v ((false || zkf (σ 100 (2 * z + 0)) v) || zkf (σ 100 (2 * z + 1)) v) hz
  exact (a.trans (b.trans c)).trans (by rw [Bool.false_or]; rfl)
