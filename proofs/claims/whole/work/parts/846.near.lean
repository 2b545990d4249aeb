/-! the nearest neighbour, in both: the extremum of one set of places, found in two orders -/
def znb (beh : Bool) (best : Option Nat) (x : Nat) : Option Nat := match best with | none => some x | some b => if (decide (zod x < zod b) == beh) = true then some x else some b
def znr (R : zR) (beh : Bool) (p : Nat) (best : Option Nat) (x : Nat) : Option Nat := if (zow R x && (decide (zod p < zod x) == beh)) = true then znb beh best x else best
theorem zbq {x y : Bool} : (zb x = zb y) = (x = y) := by cases x <;> cases y <;> decide
theorem z3ner {σ : zt_St} {k0 M p x : Nat} {R : zR} {beh : Bool} {best : Option Nat} (hk : zK (k0 + 1) M R) (hR : zRC σ (k0 + 1) R) (hb : zRB R) (hp : p < 10000) (hx : x < 10000) (hbest : ∀ b, best = some b → b < 10000) : f_X6_nearer σ k0 (oI 0 best) (nI x) (nI p) (zb beh) = some (oI 0 (znr R beh p best x)) := by
  have q1 := zod_lt x hx
  have q2 := zod_lt p hp
  have c : ∀ (y : Bool), f_X6_nearer_22 σ k0 (zb y) (zb beh) (oI 0 best) (nI x) (zb beh) (nI (zod x)) = some (oI 0 (if (zow R x && (y == beh)) = true then (znb beh best x) else best)) := by
    intro y
    unfold f_X6_nearer_22 f_X6_nearer_61
    rw [z3own hk hR hb hx, zbd_s]
    simp only [zbq]
    by_cases c1 : beh = y
    · subst c1
      rw [if_pos rfl, beq_self_eq_true, Bool.and_true]
      cases zow R x with
      | false => rw [if_pos (show zb false = 0 from rfl), if_neg (by decide)]
      | true =>
        rw [if_neg (show ¬ zb true = 0 by decide), if_pos rfl]
        cases best with
        | none =>
          rw [if_pos (show oI 0 none = -1 from rfl)]
          exact congrArg (fun w => some (nI w)) (Nat.zero_add x).symm
        | some b =>
          have hb1 := hbest b rfl
          have q3 := zod_lt b hb1
          have e : oI 0 (some b) = nI b := congrArg nI (Nat.zero_add b)
          have ex : oI 0 (some x) = nI x := congrArg nI (Nat.zero_add x)
          rw [e, if_neg (zm1 (by omega)), z3od hb1, zbd_s, show (0 : Int32) = zb false from rfl, show (1 : Int32) = zb true from rfl]
          simp only [zbq]
          show _ = some (oI 0 (if (decide (zod x < zod b) == beh) = true then some x else some b))
          by_cases c2 : zod x < zod b
          · rw [if_neg (nI_ge c2 (by omega)), decide_eq_true c2]
            cases beh with
            | true => rw [if_pos rfl]; exact congrArg some ex.symm
            | false => rw [if_neg (by decide)]; exact congrArg some e.symm
          · rw [if_pos (nI_le (by omega) (by omega)), decide_eq_false c2]
            cases beh with
            | false => rw [if_pos rfl]; exact congrArg some ex.symm
            | true => rw [if_neg (by decide)]; exact congrArg some e.symm
    · rw [if_neg c1, show (y == beh) = false from beq_eq_false_iff_ne.mpr (fun w => c1 w.symm), Bool.and_false, if_neg (by decide)]
  unfold f_X6_nearer znr
  rw [z3od hx, zbd_s, z3od hp, zbd_s]
  by_cases c2 : zod p < zod x
  · rw [if_neg (nI_ge c2 (by omega)), decide_eq_true c2]
    exact c true
  · rw [if_pos (nI_le (by omega) (by omega)), decide_eq_false c2]
    exact c false
theorem z9ner {σ : zt_St} {s p x : Nat} {R : zR} {beh : Bool} {best : Option Nat} (hk : zM s R) (hR : zRM σ s R) (hb : zRB R) (hp : p < 10000) (hx : x < 10000) (hbest : ∀ b, best = some b → b < 10000) : f_X9_nearer σ (nI s) (nI p) (zb beh) (nI x) (oI 0 best) = some (oI 0 (znr R beh p best x)) := by
  have q1 := zod_lt x hx
  have q2 := zod_lt p hp
  have ex : oI 0 (some x) = nI x := congrArg nI (Nat.zero_add x)
  have c1 : f_X9_nearer_36 σ 1 (zb beh) (nI x) (oI 0 best) = some (oI 0 (znb beh best x)) := by
    unfold f_X9_nearer_36 f_X9_nearer_67 f_X9_nearer_71
    rw [if_neg (show ¬ (1 : Int32) = 0 by decide)]
    cases best with
    | none =>
      rw [if_pos (show oI 0 none = -1 from rfl)]
      exact congrArg some ex.symm
    | some b =>
      have hb1 := hbest b rfl
      have q3 := zod_lt b hb1
      have e : oI 0 (some b) = nI b := congrArg nI (Nat.zero_add b)
      rw [e, if_neg (zm1 (by omega)), z9od hx, zbd_s, z9od hb1, zbd_s, show (0 : Int32) = zb false from rfl, show (1 : Int32) = zb true from rfl]
      simp only [zbq]
      show _ = some (oI 0 (if (decide (zod x < zod b) == beh) = true then some x else some b))
      by_cases c2 : zod x < zod b
      · rw [if_neg (nI_ge (show zod x * 11 < zod b * 11 by omega) (by omega)), decide_eq_true c2]
        cases beh with
        | true => rw [if_pos rfl]; exact congrArg some ex.symm
        | false => rw [if_neg (by decide)]; exact congrArg some e.symm
      · rw [if_pos (nI_le (show zod b * 11 ≤ zod x * 11 by omega) (by omega)), decide_eq_false c2]
        cases beh with
        | false => rw [if_pos rfl]; exact congrArg some ex.symm
        | true => rw [if_neg (by decide)]; exact congrArg some e.symm
  have c0 : f_X9_nearer_35 σ (zb beh) (nI x) (oI 0 best) = some (oI 0 best) := rfl
  unfold f_X9_nearer f_X9_nearer_27 znr
  rw [z9own hk hR hb hx, zbd_s, z9od hx, zbd_s, z9od hp, zbd_s, c0, c1, show (0 : Int32) = zb false from rfl, show (1 : Int32) = zb true from rfl]
  simp only [zbq]
  cases zow R x with
  | false => rw [if_pos rfl, Bool.false_and, if_neg (by decide)]
  | true =>
    rw [if_neg (show ¬ true = false by decide), Bool.true_and]
    by_cases c2 : zod p < zod x
    · rw [if_neg (nI_ge (show zod p * 11 < zod x * 11 by omega) (by omega)), decide_eq_true c2]
      cases beh with
      | true => rw [if_pos rfl]; rfl
      | false => rw [if_neg (by decide)]; rfl
    · rw [if_pos (nI_le (show zod x * 11 ≤ zod p * 11 by omega) (by omega)), decide_eq_false c2]
      cases beh with
      | false => rw [if_pos rfl]; rfl
      | true => rw [if_neg (by decide)]; rfl
theorem znr_c {R : zR} {beh : Bool} {p x : Nat} {best : Option Nat} : znr R beh p best x = some x ∨ znr R beh p best x = best := by
  unfold znr
  split
  · cases best with
    | none => exact Or.inl rfl
    | some b =>
      show (if (decide (zod x < zod b) == beh) = true then some x else some b) = some x ∨ (if (decide (zod x < zod b) == beh) = true then some x else some b) = some b
      split
      · exact Or.inl rfl
      · exact Or.inr rfl
  · exact Or.inr rfl
def zil : Nat → Nat → List Nat
  | 0, _ => []
  | d + 1, n => n :: zil d (n / 10)
theorem zil_s {d n : Nat} : zil (d + 1) n = n :: zil d (n / 10) := rfl
theorem zil_l : ∀ d n, d < 5 → zil (d + 1) n = zil d n ++ [n / ztn d] := by
  intro d
  induction d with
  | zero =>
    intro n _
    rw [zil_s, show ztn 0 = 1 from rfl, Nat.div_one]
    rfl
  | succ d ih =>
    intro n h
    rw [zil_s, ih (n / 10) (by omega), zil_s, ztn_s (by omega), Nat.div_div_eq_div_mul, Nat.mul_comm 10, List.cons_append]
theorem zil_b : ∀ d n x, x ∈ zil d n → x ≤ n := by
  intro d
  induction d with
  | zero => intro n x h; cases h
  | succ d ih =>
    intro n x h
    rw [zil_s, List.mem_cons] at h
    rcases h with h | h
    · omega
    · have := ih _ _ h
      omega
def znl (R : zR) (a : Nat) : Nat → Nat → List Nat
  | 0, _ => []
  | d + 1, i => (zP R i :: zil (zfg (zbs (zP R i)) - zfg a + 1) (zbs (zP R i))) ++ znl R a d (i + 1)
def zml (R : zR) (a : Nat) : Nat → Nat → List Nat
  | 0, _ => []
  | d + 1, i => ((zil (zfg (zbs (zP R i)) - zfg a + 1) (zbs (zP R i))).reverse ++ [zP R i]) ++ zml R a d (i + 1)
theorem znl_s {R : zR} {a d i : Nat} : znl R a (d + 1) i = (zP R i :: zil (zfg (zbs (zP R i)) - zfg a + 1) (zbs (zP R i))) ++ znl R a d (i + 1) := rfl
theorem zml_s {R : zR} {a d i : Nat} : zml R a (d + 1) i = ((zil (zfg (zbs (zP R i)) - zfg a + 1) (zbs (zP R i))).reverse ++ [zP R i]) ++ zml R a d (i + 1) := rfl
theorem znm_e (R : zR) (a : Nat) : ∀ d i x, x ∈ znl R a d i ↔ x ∈ zml R a d i := by
  intro d
  induction d with
  | zero => intro i x; exact Iff.rfl
  | succ d ih =>
    intro i x
    rw [znl_s, zml_s, List.mem_append, List.mem_append, List.mem_append, List.mem_reverse, List.mem_cons, List.mem_singleton, ih, Or.comm (a := x = zP R i)]
def zbb (best : Option Nat) : Prop := ∀ b, best = some b → b < 10000
theorem znr_b {R : zR} {beh : Bool} {p x : Nat} {best : Option Nat} (h : zbb best) (hx : x < 10000) : zbb (znr R beh p best x) := by
  rcases @znr_c R beh p x best with e | e
  · rw [e]; intro b w; cases w; exact hx
  · rw [e]; exact h
theorem znr_fb {R : zR} {beh : Bool} {p : Nat} : ∀ (l : List Nat) (best : Option Nat), zbb best → (∀ x, x ∈ l → x < 10000) → zbb (l.foldl (znr R beh p) best) := by
  intro l
  induction l with
  | nil => intro best h _; exact h
  | cons y l ih => intro best h hl; exact ih _ (znr_b h (hl y List.mem_cons_self)) (fun x hx => hl x (List.mem_cons_of_mem _ hx))
theorem zs_nei {σ : zt_St} {k0 n : Nat} {rc : Int32 → Int32 → Int32 → Int32 → Option Int32} {a b c d e f g : Int32} : f_X6_nearest_63 σ k0 rc (n + 1) a b c d e f g = f_X6_nearest_63b σ k0 rc (f_X6_nearest_63 σ k0 rc n) a b c d e f g := rfl
theorem z3nei {σ : zt_St} {k0 M i ab p : Nat} {R : zR} {beh : Bool} {rc : Int32 → Int32 → Int32 → Int32 → Option Int32} (hk : zK (k0 + 1) M R) (hR : zRC σ (k0 + 1) R) (hb : zRB R) (hi : i < 30) (hab : ab < 5) (hp : p < 10000) : ∀ d n best j m, j + d = ab + 1 → n < 10000 → zbb best → f_X6_nearest_63 σ k0 rc (m + d + 1) (nI p) (zb beh) (oI 0 best) (nI i) (nI n) (nI ab) (nI j) = rc (nI p) (zb beh) (oI 0 ((zil d n).foldl (znr R beh p) best)) (nI (i + 1)) := by
  intro d
  induction d with
  | zero =>
    intro n best j m h hn hbb
    rw [zs_nei]
    unfold f_X6_nearest_63b
    rw [if_pos (nI_lt (by omega) (by omega)), nI_1]
    rfl
  | succ d ih =>
    intro n best j m h hn hbb
    rw [show m + (d + 1) + 1 = (m + d + 1) + 1 from rfl, zs_nei]
    unfold f_X6_nearest_63b
    rw [if_neg (nI_nlt (by omega) (by omega)), z3ner hk hR hb hp hn hbb, zbd_s, nI_1, zl_10, pk_div (by omega) (by decide) (by decide), ih (n / 10) _ (j + 1) m (by omega) (by omega) (znr_b hbb hn)]
    rfl
theorem zs_neo {σ : zt_St} {k0 n : Nat} {a b c d : Int32} : f_X6_nearest_5 σ k0 (n + 1) a b c d = f_X6_nearest_5b σ k0 (f_X6_nearest_5 σ k0 n) a b c d := rfl
theorem z3neo {σ : zt_St} {k0 M a p : Nat} {R : zR} {beh : Bool} (hk : zK (k0 + 1) M R) (hR : zRC σ (k0 + 1) R) (hb : zRB R) (ha : σ k0 0 = nI a) (ha2 : a < 10000) (hp : p < 10000) (hu : ∀ i, i < R.1 → zun (zbs (zP R i)) a = true) : ∀ d i best m, i + d = R.1 → zbb best → f_X6_nearest_5 σ k0 (m + d + 1) (nI p) (zb beh) (oI 0 best) (nI i) = some (oI 0 ((znl R a d i).foldl (znr R beh p) best)) := by
  have hM := hk.2.2.2.2
  intro d
  induction d with
  | zero =>
    intro i best m h hbb
    rw [zs_neo]
    unfold f_X6_nearest_5b
    rw [hR.1, if_pos (nI_le (by omega) (by omega))]
    rfl
  | succ d ih =>
    intro i best m h hbb
    have b := hb i (by omega)
    have q := z3pa hk hR (show i < R.1 by omega)
    have hl := zbs_lt b.1
    have h4 := zfg4 (zbs (zP R i))
    have hf := zun_fl hl (hu i (by omega))
    have hb1 := @znr_b R beh p _ _ hbb b.1
    rw [show m + (d + 1) + 1 = (m + d + 1) + 1 from rfl, zs_neo, znl_s, List.foldl_append]
    unfold f_X6_nearest_5b
    rw [hR.1, if_neg (nI_ge (by omega) (by omega)), q.1, zbd_s, z3ner hk hR hb hp b.1 hbb, zbd_s, z3bs (by omega), zbd_s, z3fg hl, zbd_s, ha, z3fg ha2, zbd_s, pk_sub hf, zfu (zfg (zbs (zP R i)) - zfg a + 1) (by omega), zl_0, z3nei hk hR hb (by omega) (by omega) hp _ _ _ _ _ (by omega) hl hb1, ih (i + 1) _ m (by omega) (znr_fb _ _ hb1 (fun x hx => by have := zil_b _ _ _ hx; omega))]
    rfl
theorem z3nea {σ : zt_St} {k0 M a p : Nat} {R : zR} {beh : Bool} (hk : zK (k0 + 1) M R) (hR : zRC σ (k0 + 1) R) (hb : zRB R) (ha : σ k0 0 = nI a) (ha2 : a < 10000) (hp : p < 10000) (hu : ∀ i, i < R.1 → zun (zbs (zP R i)) a = true) : f_X6_nearest σ k0 (nI p) (zb beh) = some (oI 0 ((znl R a R.1 0).foldl (znr R beh p) none)) := by
  have hM := hk.2.2.2.2
  unfold f_X6_nearest
  rw [zfu R.1 (by omega), zl_0]
  exact z3neo hk hR hb ha ha2 hp hu R.1 0 none _ (by omega) (fun b w => nomatch w)
