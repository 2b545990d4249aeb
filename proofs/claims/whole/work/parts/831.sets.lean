/-! sets of records as a number and rows; what the class and the reference look up in them are the same functions -/
abbrev zR : Type := Nat × (Nat → Nat × Nat × Nat × Nat)
def zP (R : zR) (i : Nat) : Nat := (R.2 i).1
def zS (R : zR) (i : Nat) : Nat := (R.2 i).2.1
def zV (R : zR) (i : Nat) : Nat := (R.2 i).2.2.1
def zL (R : zR) (i : Nat) : Nat := (R.2 i).2.2.2
def zK (k M : Nat) (R : zR) : Prop := zt_ln (k + 1) = M ∧ zt_ln (k + 2) = M ∧ zt_ln (k + 3) = M ∧ zt_ln (k + 4) = M ∧ R.1 ≤ M ∧ M ≤ 30
def zRC (σ : zt_St) (k : Nat) (R : zR) : Prop := σ k 4 = nI R.1 ∧ ∀ i, i < R.1 → σ (k + 1) i = nI (zP R i) ∧ σ (k + 2) i = nI (zS R i) ∧ σ (k + 3) i = nI (zV R i) ∧ σ (k + 4) i = nI (zL R i)
def zRM (σ : zt_St) (s : Nat) (R : zR) : Prop := σ 103 s = nI R.1 ∧ ∀ i, i < R.1 → σ 104 (32 * s + i) = nI (zP R i) ∧ σ 105 (32 * s + i) = nI (zS R i) ∧ σ 106 (32 * s + i) = nI (zV R i) ∧ σ 107 (32 * s + i) = nI (zL R i)
def zRB (R : zR) : Prop := ∀ i, i < R.1 → zP R i < 10000 ∧ zS R i < 5 ∧ zV R i < 10000 ∧ zL R i ≤ 50
def zM (s : Nat) (R : zR) : Prop := s < 13 ∧ R.1 ≤ 30
def oI (o : Nat) (b : Option Nat) : Int32 := match b with | none => -1 | some j => nI (o + j)
theorem zln (n : Nat) : Int32.ofNat n = nI n := rfl
theorem zm1 {n : Nat} (h : n < 2 ^ 31) : ¬ nI n = -1 := by
  intro e
  have q := congrArg Int32.toInt e
  rw [nI_toInt h, show (-1 : Int32).toInt = -1 from rfl] at q
  omega
theorem oIn {o : Nat} {b : Option Nat} (h : ∀ j, b = some j → o + j < 2 ^ 31) : oI o b = -1 ↔ b = none := by
  cases b with
  | none => exact ⟨fun _ => rfl, fun _ => rfl⟩
  | some j => exact ⟨fun e => absurd e (zm1 (h j rfl)), fun e => nomatch e⟩
theorem zfu (N : Nat) (h : N ≤ 4000) : zt_FU = (4999 - N) + N + 1 := by unfold zt_FU; omega
theorem zbo (a b : Bool) : zb a ||| zb b = zb (a || b) := by cases a <;> cases b <;> decide
theorem zba (a b : Bool) : zb a &&& zb b = zb (a && b) := by cases a <;> cases b <;> decide
def zfi (q : Nat → Bool) : Nat → Nat → Option Nat
  | 0, _ => none
  | d + 1, i => if q i = true then some i else zfi q d (i + 1)
def zan (q : Nat → Bool) : Nat → Nat → Bool
  | 0, _ => false
  | d + 1, i => q i || zan q d (i + 1)
def zct (q : Nat → Bool) : Nat → Nat → Nat
  | 0, _ => 0
  | d + 1, i => (if q i = true then 1 else 0) + zct q d (i + 1)
theorem zfi_c (q : Nat → Bool) : ∀ d i, (zfi q d i = none ∧ ∀ j, i ≤ j → j < i + d → q j = false) ∨ ∃ l, zfi q d i = some l ∧ i ≤ l ∧ l < i + d ∧ q l = true ∧ ∀ j, i ≤ j → j < l → q j = false := by
  intro d
  induction d with
  | zero => intro i; exact Or.inl ⟨rfl, fun j h h2 => by omega⟩
  | succ d ih =>
    intro i
    unfold zfi
    by_cases h : q i = true
    · rw [if_pos h]
      exact Or.inr ⟨i, rfl, by omega, by omega, h, fun j h1 h2 => by omega⟩
    · rw [if_neg h]
      have h' : q i = false := by cases e : q i with
        | true => exact absurd e h
        | false => rfl
      rcases ih (i + 1) with ⟨e, f⟩ | ⟨l, e, h1, h2, h3, f⟩
      · refine Or.inl ⟨e, fun j a b => ?_⟩
        rcases Nat.lt_or_ge i j with c | c
        · exact f j c (by omega)
        · rw [show j = i by omega]; exact h'
      · refine Or.inr ⟨l, e, by omega, by omega, h3, fun j a b => ?_⟩
        rcases Nat.lt_or_ge i j with c | c
        · exact f j c b
        · rw [show j = i by omega]; exact h'
theorem zan_c (q : Nat → Bool) : ∀ d i, zan q d i = true ↔ ∃ j, i ≤ j ∧ j < i + d ∧ q j = true := by
  intro d
  induction d with
  | zero => intro i; exact ⟨fun e => (nomatch e), fun ⟨j, a, b, _⟩ => by omega⟩
  | succ d ih =>
    intro i
    unfold zan
    rw [Bool.or_eq_true, ih]
    constructor
    · rintro (h | ⟨j, a, b, c⟩)
      · exact ⟨i, by omega, by omega, h⟩
      · exact ⟨j, by omega, by omega, c⟩
    · rintro ⟨j, a, b, c⟩
      rcases Nat.lt_or_ge i j with w | w
      · exact Or.inr ⟨j, w, by omega, c⟩
      · rw [show j = i by omega] at c
        exact Or.inl c
theorem zct_c (q : Nat → Bool) : ∀ d i, zct q d i ≤ d ∧ (0 < zct q d i ↔ ∃ j, i ≤ j ∧ j < i + d ∧ q j = true) := by
  intro d
  induction d with
  | zero => intro i; exact ⟨Nat.le_refl 0, fun e => absurd e (Nat.lt_irrefl 0), fun ⟨j, a, b, _⟩ => by omega⟩
  | succ d ih =>
    intro i
    obtain ⟨h1, h2⟩ := ih (i + 1)
    unfold zct
    by_cases h : q i = true
    · rw [if_pos h]
      exact ⟨by omega, fun _ => ⟨i, by omega, by omega, h⟩, fun _ => by omega⟩
    · rw [if_neg h, Nat.zero_add]
      refine ⟨by omega, h2.trans ⟨?_, ?_⟩⟩
      · rintro ⟨j, a, b, c⟩
        exact ⟨j, by omega, by omega, c⟩
      · rintro ⟨j, a, b, c⟩
        rcases Nat.lt_or_ge i j with w | w
        · exact ⟨j, w, by omega, c⟩
        · rw [show j = i by omega] at c
          exact absurd c h

theorem z3pa {σ : zt_St} {k M : Nat} {R : zR} (hk : zK k M R) (hR : zRC σ k R) {j : Nat} (h : j < R.1) : f_X4_placeAt σ k (nI j) = some (nI (zP R j)) ∧ f_X4_sortAt σ k (nI j) = some (nI (zS R j)) ∧ f_X4_numberAt σ k (nI j) = some (nI (zV R j)) ∧ f_X4_lifeAt σ k (nI j) = some (nI (zL R j)) := by
  obtain ⟨l1, l2, l3, l4, hM, h30⟩ := hk
  obtain ⟨e1, e2, e3, e4⟩ := hR.2 j h
  have a1 : ¬ nI j < 0 := nI_pos (by omega)
  have a2 : ¬ nI R.1 ≤ nI j := nI_ge h (by omega)
  have a3 : ¬ nI M ≤ nI j := nI_ge (by omega) (by omega)
  refine ⟨?_, ?_, ?_, ?_⟩
  · unfold f_X4_placeAt
    rw [if_neg a1, hR.1, if_neg a2, l1, zln, if_neg a3, zgd_i (by omega) (by omega), nI_clamp (by omega), e1]
  · unfold f_X4_sortAt
    rw [if_neg a1, hR.1, if_neg a2, l2, zln, if_neg a3, zgd_i (by omega) (by omega), nI_clamp (by omega), e2]
  · unfold f_X4_numberAt
    rw [if_neg a1, hR.1, if_neg a2, l3, zln, if_neg a3, zgd_i (by omega) (by omega), nI_clamp (by omega), e3]
  · unfold f_X4_lifeAt
    rw [if_neg a1, hR.1, if_neg a2, l4, zln, if_neg a3, zgd_i (by omega) (by omega), nI_clamp (by omega), e4]
theorem z3paN {σ : zt_St} {k : Nat} : f_X4_placeAt σ k (-1) = some (-1) ∧ f_X4_sortAt σ k (-1) = some (-1) ∧ f_X4_numberAt σ k (-1) = some (-1) ∧ f_X4_lifeAt σ k (-1) = some 0 := by
  have a : (-1 : Int32) < 0 := by decide
  refine ⟨?_, ?_, ?_, ?_⟩
  · unfold f_X4_placeAt; rw [if_pos a]
  · unfold f_X4_sortAt; rw [if_pos a]
  · unfold f_X4_numberAt; rw [if_pos a]
  · unfold f_X4_lifeAt; rw [if_pos a]

def zq (R : zR) (x y : Int32) (j : Nat) : Bool := decide (nI (zP R j) = x ∧ nI (zS R j) = y)
def zrw (R : zR) (x y : Int32) : Option Nat := zfi (zq R x y) R.1 0
theorem zs_row {σ : zt_St} {k n : Nat} {a b c : Int32} : f_X4_rowOf_2 σ k (n + 1) a b c = f_X4_rowOf_2b σ k (f_X4_rowOf_2 σ k n) a b c := rfl
theorem zq_cases {R : zR} {x y : Int32} {i d o : Nat} {t : Option Int32} (e : t = some (oI o (zfi (zq R x y) d (i + 1)))) : (if nI (zP R i) = x then (if nI (zS R i) = y then some (nI (o + i)) else t) else t) = some (oI o (zfi (zq R x y) (d + 1) i)) := by
  show _ = some (oI o (if zq R x y i = true then some i else zfi (zq R x y) d (i + 1)))
  by_cases h1 : nI (zP R i) = x
  · by_cases h2 : nI (zS R i) = y
    · rw [if_pos h1, if_pos h2, if_pos (show zq R x y i = true from decide_eq_true ⟨h1, h2⟩)]
      rfl
    · rw [if_pos h1, if_neg h2, if_neg (show ¬ zq R x y i = true from fun w => h2 (of_decide_eq_true w).2)]
      exact e
  · rw [if_neg h1, if_neg (show ¬ zq R x y i = true from fun w => h1 (of_decide_eq_true w).1)]
    exact e
theorem z3rowL {σ : zt_St} {k M : Nat} {R : zR} {x y : Int32} (hk : zK k M R) (hR : zRC σ k R) : ∀ d i m, i + d = R.1 → f_X4_rowOf_2 σ k (m + d + 1) x y (nI i) = some (oI 0 (zfi (zq R x y) d i)) := by
  obtain ⟨l1, l2, l3, l4, hM, h30⟩ := hk
  intro d
  induction d with
  | zero =>
    intro i m h
    rw [zs_row]
    unfold f_X4_rowOf_2b
    rw [hR.1, if_pos (nI_le (by omega) (by omega))]
    rfl
  | succ d ih =>
    intro i m h
    obtain ⟨e1, e2, e3, e4⟩ := hR.2 i (by omega)
    rw [show m + (d + 1) + 1 = (m + d + 1) + 1 from rfl, zs_row]
    unfold f_X4_rowOf_2b f_X4_rowOf_41
    rw [hR.1, if_neg (nI_ge (by omega) (by omega)), l1, l2, zln, if_neg (nI_ge (by omega) (by omega)), zgd_i (by omega) (by omega), zgd_i (by omega) (by omega), nI_clamp (by omega), e1, e2, nI_1]
    have w := zq_cases (x := x) (y := y) (o := 0) (ih (i + 1) m (by omega))
    rw [Nat.zero_add] at w
    exact w
theorem z3row {σ : zt_St} {k M : Nat} {R : zR} {x y : Int32} (hk : zK k M R) (hR : zRC σ k R) : f_X4_rowOf σ k x y = some (oI 0 (zrw R x y)) := by
  have q := hk.2.2.2.2
  unfold f_X4_rowOf
  rw [zfu R.1 (by omega), zl_0]
  exact z3rowL hk hR R.1 0 _ (by omega)
theorem zs_find {σ : zt_St} {n : Nat} {a b c d : Int32} : f_X9_find_6 σ (n + 1) a b c d = f_X9_find_6b σ (f_X9_find_6 σ n) a b c d := rfl
theorem z9findL {σ : zt_St} {s : Nat} {R : zR} {x y : Int32} (hk : zM s R) (hR : zRM σ s R) : ∀ d i m, i + d = R.1 → f_X9_find_6 σ (m + d + 1) (nI s) x y (nI (32 * s + i)) = some (oI (32 * s) (zfi (zq R x y) d i)) := by
  obtain ⟨hs, h30⟩ := hk
  intro d
  induction d with
  | zero =>
    intro i m h
    rw [zs_find]
    unfold f_X9_find_6b
    rw [zgd_i (by omega) (by omega), nI_clamp (by omega), hR.1, zl_32, pk_mul, nI_add, if_pos (nI_le (by omega) (by omega))]
    rfl
  | succ d ih =>
    intro i m h
    obtain ⟨e1, e2, e3, e4⟩ := hR.2 i (by omega)
    rw [show m + (d + 1) + 1 = (m + d + 1) + 1 from rfl, zs_find]
    unfold f_X9_find_6b f_X9_find_47
    rw [zgd_i (by omega) (by omega), nI_clamp (by omega), hR.1, zl_32, pk_mul, nI_add, if_neg (nI_ge (by omega) (by omega)), zgd_i (by omega) (by omega), zgd_i (by omega) (by omega), nI_clamp (by omega), e1, e2, nI_1]
    exact zq_cases (x := x) (y := y) (o := 32 * s) (ih (i + 1) m (by omega))
theorem z9find {σ : zt_St} {s : Nat} {R : zR} {x y : Int32} (hk : zM s R) (hR : zRM σ s R) : f_X9_find σ (nI s) x y = some (oI (32 * s) (zrw R x y)) := by
  have q := hk.2
  unfold f_X9_find
  rw [zfu R.1 (by omega), zl_32, pk_mul]
  exact z9findL hk hR R.1 0 _ (by omega)
theorem zrw_lt {R : zR} {x y : Int32} {j : Nat} (h : zrw R x y = some j) : j < R.1 ∧ nI (zP R j) = x ∧ nI (zS R j) = y := by
  unfold zrw at h
  rcases zfi_c (zq R x y) R.1 0 with ⟨e, _⟩ | ⟨l, e, _, h2, h3, _⟩
  · rw [e] at h; cases h
  · rw [e] at h
    cases h
    have := of_decide_eq_true h3
    exact ⟨by omega, this.1, this.2⟩
theorem zrw_no {R : zR} {x y : Int32} (h : zrw R x y = none) : ∀ j, j < R.1 → ¬ (nI (zP R j) = x ∧ nI (zS R j) = y) := by
  unfold zrw at h
  intro j hj w
  rcases zfi_c (zq R x y) R.1 0 with ⟨_, f⟩ | ⟨l, e, _, _, _, _⟩
  · have := f j (by omega) (by omega)
    unfold zq at this
    exact absurd w (of_decide_eq_false this)
  · rw [e] at h; cases h
