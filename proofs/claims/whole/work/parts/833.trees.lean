/-! trees above, and what is a zone's own, in both -/
def zqr (R : zR) (n j : Nat) : Bool := decide (zS R j = 2) && (decide (n ≠ zP R j) && zun n (zP R j))
theorem zs_tre {σ : zt_St} {k n : Nat} {a b : Int32} : f_X4_treeOver_2 σ k (n + 1) a b = f_X4_treeOver_2b σ k (f_X4_treeOver_2 σ k n) a b := rfl
theorem z3treL {σ : zt_St} {k M : Nat} {R : zR} {n : Nat} (hk : zK k M R) (hR : zRC σ k R) (hb : zRB R) (hn : n < 10000) : ∀ d i m, i + d = R.1 → f_X4_treeOver_2 σ k (m + d + 1) (nI n) (nI i) = some (oI 0 (zfi (zqr R n) d i)) := by
  obtain ⟨l1, l2, l3, l4, hM, h30⟩ := hk
  intro d
  induction d with
  | zero =>
    intro i m h
    rw [zs_tre]
    unfold f_X4_treeOver_2b
    rw [hR.1, if_pos (nI_le (by omega) (by omega))]
    rfl
  | succ d ih =>
    intro i m h
    obtain ⟨e1, e2, e3, e4⟩ := hR.2 i (by omega)
    have b1 := hb i (by omega)
    rw [show m + (d + 1) + 1 = (m + d + 1) + 1 from rfl, zs_tre]
    unfold f_X4_treeOver_2b f_X4_treeOver_54
    rw [hR.1, if_neg (nI_ge (by omega) (by omega)), l1, l2, zln, if_neg (nI_ge (by omega) (by omega))]
    simp only [zgd_i (show i < M by omega) (show M < 2 ^ 31 by omega), nI_clamp (show i < 2 ^ 31 by omega), e1, e2, z3un hn (show zP R i < 2 ^ 31 by omega), zbd_s, nI_1, ih (i + 1) m (by omega), zl_0, zl_2, nI_eq (show zS R i < 2 ^ 31 by omega) (show 2 < 2 ^ 31 by decide), nI_eq (show zP R i < 2 ^ 31 by omega) (show n < 2 ^ 31 by omega), zb0]
    show _ = some (oI 0 (if zqr R n i = true then some i else zfi (zqr R n) d (i + 1)))
    unfold zqr
    by_cases h3 : zS R i = 2
    · rw [if_pos h3, decide_eq_true h3, Bool.true_and]
      by_cases h4 : zP R i = n
      · rw [if_pos h4, decide_eq_false (show ¬ n ≠ zP R i from fun w => w h4.symm), Bool.false_and, if_neg (by decide)]
      · rw [if_neg h4, decide_eq_true (show n ≠ zP R i from fun w => h4 w.symm), Bool.true_and]
        cases zun n (zP R i) with
        | false => rw [if_pos rfl, if_neg (by decide)]
        | true => rw [if_neg (by decide), if_pos rfl]; show some (nI i) = some (nI (0 + i)); rw [Nat.zero_add]
    · rw [if_neg h3, decide_eq_false h3, Bool.false_and, if_neg (by decide)]
theorem z3tre {σ : zt_St} {k M : Nat} {R : zR} {n : Nat} (hk : zK k M R) (hR : zRC σ k R) (hb : zRB R) (hn : n < 10000) : f_X4_treeOver σ k (nI n) = some (oI 0 (zfi (zqr R n) R.1 0)) := by
  have q := hk.2.2.2.2
  unfold f_X4_treeOver
  rw [zfu R.1 (by omega), zl_0]
  exact z3treL hk hR hb hn R.1 0 _ (by omega)
def zla (q : Nat → Bool) : Nat → Nat → Option Nat → Option Nat
  | 0, _, b => b
  | d + 1, i, b => zla q d (i + 1) (if q i = true then some i else b)
theorem zs_tre9 {σ : zt_St} {n : Nat} {a b c d : Int32} : f_X9_treeAbove_8 σ (n + 1) a b c d = f_X9_treeAbove_8b σ (f_X9_treeAbove_8 σ n) a b c d := rfl
theorem z9treL {σ : zt_St} {s : Nat} {R : zR} {n : Nat} (hk : zM s R) (hR : zRM σ s R) (hb : zRB R) (hn : n < 10000) : ∀ d i b m, i + d = R.1 → f_X9_treeAbove_8 σ (m + d + 1) (nI s) (nI n) (oI (32 * s) b) (nI (32 * s + i)) = some (oI (32 * s) (zla (zqr R n) d i b)) := by
  obtain ⟨hs, h30⟩ := hk
  intro d
  induction d with
  | zero =>
    intro i b m h
    rw [zs_tre9]
    unfold f_X9_treeAbove_8b
    rw [zgd_i (by omega) (by omega), nI_clamp (by omega), hR.1, zl_32, pk_mul, nI_add, if_pos (nI_le (by omega) (by omega))]
    rfl
  | succ d ih =>
    intro i b m h
    obtain ⟨e1, e2, e3, e4⟩ := hR.2 i (by omega)
    have b1 := hb i (by omega)
    have c0 := ih (i + 1) b m (by omega)
    have c1 := ih (i + 1) (some i) m (by omega)
    rw [show oI (32 * s) (some i) = nI (32 * s + i) from rfl] at c1
    rw [show m + (d + 1) + 1 = (m + d + 1) + 1 from rfl, zs_tre9]
    unfold f_X9_treeAbove_8b f_X9_treeAbove_54 f_X9_treeAbove_55
    rw [zgd_i (by omega) (by omega), nI_clamp (by omega), hR.1, zl_32, pk_mul, nI_add, if_neg (nI_ge (by omega) (by omega))]
    simp only [zgd_i (show 32 * s + i < 416 by omega) (show 416 < 2 ^ 31 by decide), nI_clamp (show 32 * s + i < 2 ^ 31 by omega), e1, e2, z9us hn b1.1, zbd_s, nI_1, Nat.add_assoc (32 * s) i 1, c0, c1, zl_0, zl_2, nI_eq (show zS R i < 2 ^ 31 by omega) (show 2 < 2 ^ 31 by decide), zb0]
    show _ = some (oI (32 * s) (zla (zqr R n) d (i + 1) (if zqr R n i = true then some i else b)))
    unfold zqr
    by_cases h3 : zS R i = 2
    · rw [if_pos h3, decide_eq_true h3, Bool.true_and]
      cases (decide (n ≠ zP R i) && zun n (zP R i)) with
      | false => rw [if_pos rfl, if_neg (by decide)]
      | true => rw [if_neg (by decide), if_pos rfl]
    · rw [if_neg h3, decide_eq_false h3, Bool.false_and, if_neg (by decide)]
theorem zla_u (q : Nat → Bool) : ∀ d i b, (∀ j l, i ≤ j → j < i + d → i ≤ l → l < i + d → q j = true → q l = true → j = l) → zla q d i b = (match zfi q d i with | none => b | some l => some l) := by
  intro d
  induction d with
  | zero => intro i b h; rfl
  | succ d ih =>
    intro i b h
    show zla q d (i + 1) (if q i = true then some i else b) = (match (if q i = true then some i else zfi q d (i + 1)) with | none => b | some l => some l)
    rw [ih (i + 1) _ (fun j l a1 a2 a3 a4 => h j l (by omega) (by omega) (by omega) (by omega))]
    by_cases c : q i = true
    · rw [if_pos c, if_pos c]
      rcases zfi_c q d (i + 1) with ⟨e, _⟩ | ⟨l, e, w1, w2, w3, _⟩
      · rw [e]
      · have := h i l (by omega) (by omega) (by omega) (by omega) c w3
        omega
    · rw [if_neg c, if_neg c]
def zTU (R : zR) : Prop := ∀ n, n < 10000 → ∀ j l, j < R.1 → l < R.1 → zqr R n j = true → zqr R n l = true → j = l
def ztre (R : zR) (n : Nat) : Option Nat := zfi (zqr R n) R.1 0
theorem z9tre {σ : zt_St} {s : Nat} {R : zR} {n : Nat} (hk : zM s R) (hR : zRM σ s R) (hb : zRB R) (hn : n < 10000) (hu : zTU R) : f_X9_treeAbove σ (nI s) (nI n) = some (oI (32 * s) (ztre R n)) := by
  have q := hk.2
  unfold f_X9_treeAbove
  rw [zfu R.1 (by omega), zl_32, pk_mul]
  refine (z9treL hk hR hb hn R.1 0 none _ (by omega)).trans ?_
  rw [zla_u (zqr R n) R.1 0 none (fun j l _ a2 _ a4 => hu n hn j l (by omega) (by omega))]
  unfold ztre
  cases zfi (zqr R n) R.1 0 <;> rfl
theorem ztre_s {R : zR} {n l : Nat} (h : ztre R n = some l) : l < R.1 ∧ zS R l = 2 ∧ n ≠ zP R l ∧ zun n (zP R l) = true := by
  unfold ztre at h
  rcases zfi_c (zqr R n) R.1 0 with ⟨e, _⟩ | ⟨l', e, _, h2, h3, _⟩
  · rw [e] at h; cases h
  · rw [e] at h
    cases h
    unfold zqr at h3
    rw [Bool.and_eq_true, Bool.and_eq_true] at h3
    exact ⟨by omega, of_decide_eq_true h3.1, of_decide_eq_true h3.2.1, h3.2.2⟩

def zow (R : zR) (p : Nat) : Bool := match zcut R (zbs p) with | none => true | some l => decide (zP R l = p)
theorem z3own {σ : zt_St} {k M : Nat} {R : zR} {p : Nat} (hk : zK k M R) (hR : zRC σ k R) (hb : zRB R) (hp : p < 10000) : f_X4_isOwn σ k (nI p) = some (zb (zow R p)) := by
  have q := hk.2.2.2.2
  unfold f_X4_isOwn f_X4_isOwn_23 zow
  rw [z3bs (by omega), zbd_s, z3cut hk hR hb (zbs_lt hp), zbd_s]
  cases hz : zcut R (zbs p) with
  | none => rfl
  | some l =>
    have w := zcut_s hz
    have b := hb l w.1
    have e : oI 0 (some l) = nI l := congrArg nI (Nat.zero_add l)
    rw [e, if_neg (zm1 (by omega)), (z3pa hk hR w.1).1, zbd_s]
    simp only [nI_eq (show zP R l < 2 ^ 31 by omega) (show p < 2 ^ 31 by omega)]
    by_cases c : zP R l = p
    · rw [if_pos c, decide_eq_true c]; rfl
    · rw [if_neg c, decide_eq_false c]; rfl
def zqo (R : zR) (p j : Nat) : Bool := decide (zS R j = 3) && (zun (zbs p) (zP R j) && decide (p ≠ zP R j))
theorem zs_own {σ : zt_St} {n : Nat} {a b c d : Int32} : f_X9_isOwn_8 σ (n + 1) a b c d = f_X9_isOwn_8b σ (f_X9_isOwn_8 σ n) a b c d := rfl
theorem z9ownL {σ : zt_St} {s : Nat} {R : zR} {p : Nat} (hk : zM s R) (hR : zRM σ s R) (hb : zRB R) (hp : p < 10000) : ∀ d i c m, i + d = R.1 → f_X9_isOwn_8 σ (m + d + 1) (nI s) (nI p) (zb c) (nI (32 * s + i)) = some (zb (c && !(zan (zqo R p) d i))) := by
  obtain ⟨hs, h30⟩ := hk
  intro d
  induction d with
  | zero =>
    intro i c m h
    rw [zs_own]
    unfold f_X9_isOwn_8b
    rw [zgd_i (by omega) (by omega), nI_clamp (by omega), hR.1, zl_32, pk_mul, nI_add, if_pos (nI_le (by omega) (by omega)), zbg, zgd_t]
    show some (zb c) = some (zb (c && true))
    rw [Bool.and_true]
  | succ d ih =>
    intro i c m h
    obtain ⟨e1, e2, e3, e4⟩ := hR.2 i (by omega)
    have b1 := hb i (by omega)
    have c0 := ih (i + 1) (c && true) m (by omega)
    have c1 := ih (i + 1) (c && false) m (by omega)
    rw [← zba, show zb true = (1 : Int32) from rfl] at c0
    rw [← zba, show zb false = (0 : Int32) from rfl] at c1
    rw [show m + (d + 1) + 1 = (m + d + 1) + 1 from rfl, zs_own]
    unfold f_X9_isOwn_8b f_X9_isOwn_64 f_X9_isOwn_69
    rw [zgd_i (by omega) (by omega), nI_clamp (by omega), hR.1, zl_32, pk_mul, nI_add, if_neg (nI_ge (by omega) (by omega))]
    simp only [zgd_i (show 32 * s + i < 416 by omega) (show 416 < 2 ^ 31 by decide), nI_clamp (show 32 * s + i < 2 ^ 31 by omega), e1, e2, z9bs (show p < 2 ^ 31 by omega), z9un (zbs_lt hp) b1.1, zbd_s, nI_1, Nat.add_assoc (32 * s) i 1, c0, c1, zl_3, nI_eq (show zS R i < 2 ^ 31 by omega) (show 3 < 2 ^ 31 by decide), nI_eq (show p < 2 ^ 31 by omega) (show zP R i < 2 ^ 31 by omega)]
    show _ = some (zb (c && !(zqo R p i || zan (zqo R p) d (i + 1))))
    unfold zqo
    by_cases h3 : zS R i = 3
    · rw [if_pos h3, decide_eq_true h3, Bool.true_and]
      cases zun (zbs p) (zP R i) with
      | false => rw [if_pos (show zb false = 0 from rfl), Bool.false_and, Bool.false_or, Bool.and_true]
      | true =>
        rw [if_neg (show ¬ zb true = 0 by decide), Bool.true_and]
        by_cases h4 : p = zP R i
        · rw [if_pos h4, decide_eq_false (show ¬ p ≠ zP R i from fun w => w h4), Bool.false_or, Bool.and_true]
        · rw [if_neg h4, decide_eq_true (show p ≠ zP R i from h4), Bool.true_or, Bool.and_false, Bool.false_and]
          show some (zb false) = some (zb (c && false))
          rw [Bool.and_false]
    · rw [if_neg h3, decide_eq_false h3, Bool.false_and, Bool.false_or, Bool.and_true]
theorem zbs_le (p : Nat) : zbs p ≤ p := by unfold zbs; split <;> omega
theorem zow_o (R : zR) (p : Nat) : zow R p = !(zan (zqo R p) R.1 0) := by
  unfold zow
  cases hz : zcut R (zbs p) with
  | none =>
    show true = _
    cases hx : zan (zqo R p) R.1 0 with
    | false => rfl
    | true =>
      obtain ⟨j, _, a, b⟩ := (zan_c _ _ _).mp hx
      unfold zqo at b
      rw [Bool.and_eq_true, Bool.and_eq_true] at b
      exact absurd ⟨of_decide_eq_true b.1, b.2.1⟩ (zcut_n hz j (by omega))
  | some l =>
    have w := zcut_s hz
    show decide (zP R l = p) = _
    by_cases c : zP R l = p
    · rw [decide_eq_true c]
      cases hx : zan (zqo R p) R.1 0 with
      | false => rfl
      | true =>
        obtain ⟨j, _, a, b⟩ := (zan_c _ _ _).mp hx
        unfold zqo at b
        rw [Bool.and_eq_true, Bool.and_eq_true] at b
        have b3 := of_decide_eq_true b.2.2
        have g := w.2.2.2 j (by omega) (of_decide_eq_true b.1) b.2.1
        have g2 := zun_le b.2.1
        have g3 := zbs_le p
        omega
    · rw [decide_eq_false c, (zan_c _ _ _).mpr ⟨l, by omega, by omega, ?_⟩]
      · rfl
      · unfold zqo
        rw [decide_eq_true w.2.1, w.2.2.1, decide_eq_true (show p ≠ zP R l from fun e => c e.symm)]
        rfl
theorem z9own {σ : zt_St} {s : Nat} {R : zR} {p : Nat} (hk : zM s R) (hR : zRM σ s R) (hb : zRB R) (hp : p < 10000) : f_X9_isOwn σ (nI s) (nI p) = some (zb (zow R p)) := by
  have q := hk.2
  unfold f_X9_isOwn
  rw [zfu R.1 (by omega), zl_32, pk_mul, zow_o]
  exact (z9ownL hk hR hb hp R.1 0 true _ (by omega)).trans (by rw [Bool.true_and])
