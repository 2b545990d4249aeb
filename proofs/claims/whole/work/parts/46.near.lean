/-! the nearest neighbour, in both: the extremum of one set of places, found in two orders -/
def znr (R : zR) (beh : Bool) (p : Nat) (best : Option Nat) (x : Nat) : Option Nat := if (zow R x && (decide (zod p < zod x) == beh)) = true then (match best with | none => some x | some b => if (decide (zod x < zod b) == beh) = true then some x else some b) else best
theorem zbq {x y : Bool} : (zb x = zb y) = (x = y) := by cases x <;> cases y <;> decide
theorem z3ner {σ : zt_St} {k0 M p x : Nat} {R : zR} {beh : Bool} {best : Option Nat} (hk : zK (k0 + 1) M R) (hR : zRC σ (k0 + 1) R) (hb : zRB R) (hp : p < 10000) (hx : x < 10000) (hbest : ∀ b, best = some b → b < 10000) : f_X6_nearer σ k0 (oI 0 best) (nI x) (nI p) (zb beh) = some (oI 0 (znr R beh p best x)) := by
  have q1 := zod_lt x hx
  have q2 := zod_lt p hp
  have c : ∀ (y : Bool), f_X6_nearer_22 σ k0 (zb y) (zb beh) (oI 0 best) (nI x) (zb beh) (nI (zod x)) = some (oI 0 (if (zow R x && (y == beh)) = true then (match best with | none => some x | some b => if (decide (zod x < zod b) == beh) = true then some x else some b) else best)) := by
    intro y
    unfold f_X6_nearer_22 f_X6_nearer_61
    rw [z3own hk hR hb hx, zbd_s]
    simp only [zbq]
    by_cases c1 : beh = y
    · subst c1
      rw [if_pos rfl, beq_self_eq_true, Bool.and_true]
      cases zow R x with
      | false => rw [if_pos (show zb false = 0 from rfl), if_neg (by decide)]
      | true =>
        rw [if_neg (show ¬ zb true = 0 by decide), if_pos rfl]
        cases best with
        | none =>
          rw [if_pos (show oI 0 none = -1 from rfl)]
          exact congrArg (fun w => some (nI w)) (Nat.zero_add x).symm
        | some b =>
          have hb1 := hbest b rfl
          have q3 := zod_lt b hb1
          have e : oI 0 (some b) = nI b := congrArg nI (Nat.zero_add b)
          have ex : oI 0 (some x) = nI x := congrArg nI (Nat.zero_add x)
          rw [e, if_neg (zm1 (by omega)), z3od hb1, zbd_s, show (0 : Int32) = zb false from rfl, show (1 : Int32) = zb true from rfl, zbq, zbq]
          by_cases c2 : zod x < zod b
          · rw [if_neg (nI_ge c2 (by omega)), decide_eq_true c2]
            cases beh with
            | true => rw [if_pos rfl]; exact congrArg some ex.symm
            | false => rw [if_neg (by decide)]; exact congrArg some e.symm
          · rw [if_pos (nI_le (by omega) (by omega)), decide_eq_false c2]
            cases beh with
            | false => rw [if_pos rfl]; exact congrArg some ex.symm
            | true => rw [if_neg (by decide)]; exact congrArg some e.symm
    · rw [if_neg c1, show (y == beh) = false from beq_eq_false_iff_ne.mpr (fun w => c1 w.symm), Bool.and_false, if_neg (by decide)]
  unfold f_X6_nearer znr
  rw [z3od hx, zbd_s, z3od hp, zbd_s]
  by_cases c2 : zod p < zod x
  · rw [if_neg (nI_ge c2 (by omega)), decide_eq_true c2]
    exact c true
  · rw [if_pos (nI_le (by omega) (by omega)), decide_eq_false c2]
    exact c false
theorem z9ner {σ : zt_St} {s p x : Nat} {R : zR} {beh : Bool} {best : Option Nat} (hk : zM s R) (hR : zRM σ s R) (hb : zRB R) (hp : p < 10000) (hx : x < 10000) (hbest : ∀ b, best = some b → b < 10000) : f_X9_nearer σ (nI s) (nI p) (zb beh) (nI x) (oI 0 best) = some (oI 0 (znr R beh p best x)) := by
  have q1 := zod_lt x hx
  have q2 := zod_lt p hp
  have ex : oI 0 (some x) = nI x := congrArg nI (Nat.zero_add x)
  have c1 : f_X9_nearer_36 σ 1 (zb beh) (nI x) (oI 0 best) = some (oI 0 (match best with | none => some x | some b => if (decide (zod x < zod b) == beh) = true then some x else some b)) := by
    unfold f_X9_nearer_36 f_X9_nearer_67 f_X9_nearer_71
    rw [if_neg (show ¬ (1 : Int32) = 0 by decide)]
    cases best with
    | none =>
      rw [if_pos (show oI 0 none = -1 from rfl)]
      exact congrArg some ex.symm
    | some b =>
      have hb1 := hbest b rfl
      have q3 := zod_lt b hb1
      have e : oI 0 (some b) = nI b := congrArg nI (Nat.zero_add b)
      rw [e, if_neg (zm1 (by omega)), z9od hx, zbd_s, z9od hb1, zbd_s, show (0 : Int32) = zb false from rfl, show (1 : Int32) = zb true from rfl, zbq, zbq]
      by_cases c2 : zod x < zod b
      · rw [if_neg (nI_ge (show zod x * 11 < zod b * 11 by omega) (by omega)), decide_eq_true c2]
        cases beh with
        | true => rw [if_pos rfl]; exact congrArg some ex.symm
        | false => rw [if_neg (by decide)]; exact congrArg some e.symm
      · rw [if_pos (nI_le (show zod b * 11 ≤ zod x * 11 by omega) (by omega)), decide_eq_false c2]
        cases beh with
        | false => rw [if_pos rfl]; exact congrArg some ex.symm
        | true => rw [if_neg (by decide)]; exact congrArg some e.symm
  have c0 : f_X9_nearer_35 σ (zb beh) (nI x) (oI 0 best) = some (oI 0 best) := rfl
  unfold f_X9_nearer f_X9_nearer_27 znr
  rw [z9own hk hR hb hx, zbd_s, z9od hx, zbd_s, z9od hp, zbd_s, c0, c1, show (0 : Int32) = zb false from rfl, show (1 : Int32) = zb true from rfl, zbq, zbq]
  cases zow R x with
  | false => rw [if_pos rfl, Bool.false_and, if_neg (by decide)]
  | true =>
    rw [if_neg (show ¬ zb true = zb false by decide), Bool.true_and]
    by_cases c2 : zod p < zod x
    · rw [if_neg (nI_ge (show zod p * 11 < zod x * 11 by omega) (by omega)), decide_eq_true c2]
      cases beh with
      | true => rw [if_pos rfl]; rfl
      | false => rw [if_neg (by decide)]; rfl
    · rw [if_pos (nI_le (show zod x * 11 ≤ zod p * 11 by omega) (by omega)), decide_eq_false c2]
      cases beh with
      | false => rw [if_pos rfl]; rfl
      | true => rw [if_neg (by decide)]; rfl
theorem znr_c {R : zR} {beh : Bool} {p x : Nat} {best : Option Nat} : znr R beh p best x = some x ∨ znr R beh p best x = best := by
  unfold znr
  split
  · cases best with
    | none => exact Or.inl rfl
    | some b =>
      show (if (decide (zod x < zod b) == beh) = true then some x else some b) = _ ∨ _
      split
      · exact Or.inl rfl
      · exact Or.inr rfl
  · exact Or.inr rfl
