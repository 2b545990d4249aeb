/-! names that are there, cuts and trees above, in both -/
theorem zs_cnt {σ : zt_St} {k n : Nat} {a b c : Int32} : f_X4_countAt_4 σ k (n + 1) a b c = f_X4_countAt_4b σ k (f_X4_countAt_4 σ k n) a b c := rfl
def zqa (R : zR) (x : Int32) (j : Nat) : Bool := decide (nI (zP R j) = x)
theorem z3cntL {σ : zt_St} {k M : Nat} {R : zR} {x : Int32} (hk : zK k M R) (hR : zRC σ k R) : ∀ d i c m, i + d = R.1 → f_X4_countAt_4 σ k (m + d + 1) x (nI c) (nI i) = some (nI (c + zct (zqa R x) d i)) := by
  obtain ⟨l1, l2, l3, l4, hM, h30⟩ := hk
  intro d
  induction d with
  | zero =>
    intro i c m h
    rw [zs_cnt]
    unfold f_X4_countAt_4b
    rw [hR.1, if_pos (nI_le (by omega) (by omega))]
    rfl
  | succ d ih =>
    intro i c m h
    obtain ⟨e1, e2, e3, e4⟩ := hR.2 i (by omega)
    rw [show m + (d + 1) + 1 = (m + d + 1) + 1 from rfl, zs_cnt]
    unfold f_X4_countAt_4b f_X4_countAt_34
    rw [hR.1, if_neg (nI_ge (by omega) (by omega)), l1, zln, if_neg (nI_ge (by omega) (by omega)), zgd_i (by omega) (by omega), nI_clamp (by omega), e1, nI_1, nI_1, ih (i + 1) (c + 1) m (by omega), ih (i + 1) c m (by omega)]
    show _ = some (nI (c + ((if zqa R x i = true then 1 else 0) + zct (zqa R x) d (i + 1))))
    by_cases h1 : nI (zP R i) = x
    · rw [if_pos h1, if_pos (show zqa R x i = true from decide_eq_true h1), Nat.add_assoc]
    · rw [if_neg h1, if_neg (show ¬ zqa R x i = true from fun w => h1 (of_decide_eq_true w)), Nat.zero_add]
theorem z3cnt {σ : zt_St} {k M : Nat} {R : zR} {x : Int32} (hk : zK k M R) (hR : zRC σ k R) : f_X4_countAt σ k x = some (nI (zct (zqa R x) R.1 0)) := by
  have q := hk.2.2.2.2
  unfold f_X4_countAt
  rw [zfu R.1 (by omega), zl_0, z3cntL hk hR R.1 0 0 _ (by omega), Nat.zero_add]
theorem zs_any {σ : zt_St} {k n : Nat} {a b : Int32} : f_X4_isAnyElseUnder_2 σ k (n + 1) a b = f_X4_isAnyElseUnder_2b σ k (f_X4_isAnyElseUnder_2 σ k n) a b := rfl
def zqe (R : zR) (n : Nat) (j : Nat) : Bool := decide (zP R j ≠ n) && zun (zbs (zP R j)) n
theorem z3anyL {σ : zt_St} {k M : Nat} {R : zR} {n : Nat} (hk : zK k M R) (hR : zRC σ k R) (hb : zRB R) (hn : n < 10000) : ∀ d i m, i + d = R.1 → f_X4_isAnyElseUnder_2 σ k (m + d + 1) (nI n) (nI i) = some (zb (zan (zqe R n) d i)) := by
  obtain ⟨l1, l2, l3, l4, hM, h30⟩ := hk
  intro d
  induction d with
  | zero =>
    intro i m h
    rw [zs_any]
    unfold f_X4_isAnyElseUnder_2b
    rw [hR.1, if_pos (nI_le (by omega) (by omega))]
    rfl
  | succ d ih =>
    intro i m h
    obtain ⟨e1, e2, e3, e4⟩ := hR.2 i (by omega)
    have b1 := (hb i (by omega)).1
    rw [show m + (d + 1) + 1 = (m + d + 1) + 1 from rfl, zs_any]
    unfold f_X4_isAnyElseUnder_2b f_X4_isAnyElseUnder_47
    rw [hR.1, if_neg (nI_ge (by omega) (by omega)), l1, zln, if_neg (nI_ge (by omega) (by omega)), zgd_i (by omega) (by omega), zgd_i (by omega) (by omega), nI_clamp (by omega), e1, z3bs (by omega), zbd_s, z3un (zbs_lt b1) (by omega), zbd_s, nI_1, ih (i + 1) m (by omega), zl_0]
    show _ = some (zb (zqe R n i || zan (zqe R n) d (i + 1)))
    unfold zqe
    simp only [nI_eq (show zP R i < 2 ^ 31 by omega) (show n < 2 ^ 31 by omega), zb0]
    by_cases h1 : zP R i = n
    · rw [if_pos h1, decide_eq_false (fun w => w h1), Bool.false_and, Bool.false_or]
    · rw [if_neg h1, decide_eq_true h1, Bool.true_and]
      cases zun (zbs (zP R i)) n with
      | true => rfl
      | false => rfl
theorem z3any {σ : zt_St} {k M : Nat} {R : zR} {n : Nat} (hk : zK k M R) (hR : zRC σ k R) (hb : zRB R) (hn : n < 10000) : f_X4_isAnyElseUnder σ k (nI n) = some (zb (zan (zqe R n) R.1 0)) := by
  have q := hk.2.2.2.2
  unfold f_X4_isAnyElseUnder
  rw [zfu R.1 (by omega), zl_0]
  exact z3anyL hk hR hb hn R.1 0 _ (by omega)
theorem zs_thr {σ : zt_St} {k n : Nat} {a b c : Int32} : f_X4_isThereBy_2 σ k (n + 1) a b c = f_X4_isThereBy_2b σ k (f_X4_isThereBy_2 σ k n) a b c := rfl
def zqt (R : zR) (n : Nat) (j : Nat) : Bool := zun (zbs (zP R j)) n
theorem z3thrL {σ : zt_St} {k M : Nat} {R : zR} {n N : Nat} (hk : zK k M R) (hR : zRC σ k R) (hb : zRB R) (hn : n < 2 ^ 31) (hN : N ≤ R.1) : ∀ d i m, i + d = N → f_X4_isThereBy_2 σ k (m + d + 1) (nI N) (nI n) (nI i) = some (zb (zan (zqt R n) d i)) := by
  obtain ⟨l1, l2, l3, l4, hM, h30⟩ := hk
  intro d
  induction d with
  | zero =>
    intro i m h
    rw [zs_thr]
    unfold f_X4_isThereBy_2b
    rw [if_pos (nI_le (by omega) (by omega))]
    rfl
  | succ d ih =>
    intro i m h
    obtain ⟨e1, e2, e3, e4⟩ := hR.2 i (by omega)
    have b1 := (hb i (by omega)).1
    rw [show m + (d + 1) + 1 = (m + d + 1) + 1 from rfl, zs_thr]
    unfold f_X4_isThereBy_2b
    rw [if_neg (nI_ge (by omega) (by omega)), l1, zln, if_neg (nI_ge (by omega) (by omega)), zgd_i (by omega) (by omega), nI_clamp (by omega), e1, z3bs (by omega), zbd_s, z3un (zbs_lt b1) hn, zbd_s, nI_1, ih (i + 1) m (by omega), zl_0]
    show _ = some (zb (zqt R n i || zan (zqt R n) d (i + 1)))
    unfold zqt
    simp only [zb0]
    cases zun (zbs (zP R i)) n with
    | true => rfl
    | false => rfl
theorem z3thr {σ : zt_St} {k M : Nat} {R : zR} {n N : Nat} (hk : zK k M R) (hR : zRC σ k R) (hb : zRB R) (hn : n < 2 ^ 31) (hN : N ≤ R.1) : f_X4_isThereBy σ k (nI N) (nI n) = some (zb (zan (zqt R n) N 0)) := by
  have q := hk.2.2.2.2
  unfold f_X4_isThereBy
  rw [zfu N (by omega), zl_0]
  exact z3thrL hk hR hb hn hN N 0 _ (by omega)
theorem zs_thr9 {σ : zt_St} {n : Nat} {a b c d : Int32} : f_X9_isThere_8 σ (n + 1) a b c d = f_X9_isThere_8b σ (f_X9_isThere_8 σ n) a b c d := rfl
theorem z9thrL {σ : zt_St} {s : Nat} {R : zR} {n : Nat} (hk : zM s R) (hR : zRM σ s R) (hb : zRB R) (hn : n < 10000) : ∀ d i c m, i + d = R.1 → f_X9_isThere_8 σ (m + d + 1) (nI s) (nI n) (zb c) (nI (32 * s + i)) = some (zb (c || zan (zqt R n) d i)) := by
  obtain ⟨hs, h30⟩ := hk
  intro d
  induction d with
  | zero =>
    intro i c m h
    rw [zs_thr9]
    unfold f_X9_isThere_8b
    rw [zgd_i (by omega) (by omega), nI_clamp (by omega), hR.1, zl_32, pk_mul, nI_add, if_pos (nI_le (by omega) (by omega)), zbg, zgd_t]
    unfold zan
    rw [Bool.or_false]
  | succ d ih =>
    intro i c m h
    obtain ⟨e1, e2, e3, e4⟩ := hR.2 i (by omega)
    have b1 := (hb i (by omega)).1
    rw [show m + (d + 1) + 1 = (m + d + 1) + 1 from rfl, zs_thr9]
    unfold f_X9_isThere_8b
    rw [zgd_i (by omega) (by omega), nI_clamp (by omega), hR.1, zl_32, pk_mul, nI_add, if_neg (nI_ge (by omega) (by omega)), zgd_i (by omega) (by omega), nI_clamp (by omega), e1, z9bs (by omega), zbd_s, z9un (zbs_lt b1) hn, zbd_s, zbo, nI_1, Nat.add_assoc (32 * s) i 1, ih (i + 1) _ m (by omega), Bool.or_assoc]
    rfl
theorem z9thr {σ : zt_St} {s : Nat} {R : zR} {n : Nat} (hk : zM s R) (hR : zRM σ s R) (hb : zRB R) (hn : n < 10000) : f_X9_isThere σ (nI s) (nI n) = some (zb (zan (zqt R n) R.1 0)) := by
  have q := hk.2
  unfold f_X9_isThere
  rw [zfu R.1 (by omega), zl_32, pk_mul, zl_0]
  exact (z9thrL hk hR hb hn R.1 0 false _ (by omega)).trans (by rw [Bool.false_or])
theorem zs_wah {σ : zt_St} {n : Nat} {a b c d : Int32} : f_X9_wasAhead_9 σ (n + 1) a b c d = f_X9_wasAhead_9b σ (f_X9_wasAhead_9 σ n) a b c d := rfl
theorem z9wahL {σ : zt_St} {s : Nat} {R : zR} {n N : Nat} (hk : zM s R) (hR : zRM σ s R) (hb : zRB R) (hn : n < 10000) (hN : N ≤ R.1) : ∀ d i c m, i + d = N → f_X9_wasAhead_9 σ (m + d + 1) (nI (32 * s + N)) (nI n) (zb c) (nI (32 * s + i)) = some (zb (c || zan (zqt R n) d i)) := by
  obtain ⟨hs, h30⟩ := hk
  intro d
  induction d with
  | zero =>
    intro i c m h
    rw [zs_wah]
    unfold f_X9_wasAhead_9b
    rw [if_pos (nI_le (by omega) (by omega)), zbg, zgd_t]
    unfold zan
    rw [Bool.or_false]
  | succ d ih =>
    intro i c m h
    obtain ⟨e1, e2, e3, e4⟩ := hR.2 i (by omega)
    have b1 := (hb i (by omega)).1
    rw [show m + (d + 1) + 1 = (m + d + 1) + 1 from rfl, zs_wah]
    unfold f_X9_wasAhead_9b
    rw [if_neg (nI_ge (by omega) (by omega)), zgd_i (by omega) (by omega), nI_clamp (by omega), e1, z9bs (by omega), zbd_s, z9un (zbs_lt b1) hn, zbd_s, zbo, nI_1, Nat.add_assoc (32 * s) i 1, ih (i + 1) _ m (by omega), Bool.or_assoc]
    rfl
theorem z9wah {σ : zt_St} {s : Nat} {R : zR} {n N : Nat} (hk : zM s R) (hR : zRM σ s R) (hb : zRB R) (hn : n < 10000) (hN : N ≤ R.1) : f_X9_wasAhead σ (nI s) (nI (32 * s + N)) (nI n) = some (zb (zan (zqt R n) N 0)) := by
  have q := hk.2
  unfold f_X9_wasAhead
  rw [zfu N (by omega), zl_32, pk_mul, zl_0]
  exact (z9wahL hk hR hb hn hN N 0 false _ (by omega)).trans (by rw [Bool.false_or])
theorem zs_sth {σ : zt_St} {n : Nat} {a b c d : Int32} : f_X9_isStarThere_8 σ (n + 1) a b c d = f_X9_isStarThere_8b σ (f_X9_isStarThere_8 σ n) a b c d := rfl
theorem z9sthL {σ : zt_St} {s : Nat} {R : zR} {n : Nat} (hk : zM s R) (hR : zRM σ s R) (hn : n < 100000) : ∀ d i c m, i + d = R.1 → f_X9_isStarThere_8 σ (m + d + 1) (nI s) (nI n) (zb c) (nI (32 * s + i)) = some (zb (c || (decide (0 < n) && zan (zqa R (nI (10 * n))) d i))) := by
  obtain ⟨hs, h30⟩ := hk
  intro d
  induction d with
  | zero =>
    intro i c m h
    rw [zs_sth]
    unfold f_X9_isStarThere_8b
    rw [zgd_i (by omega) (by omega), nI_clamp (by omega), hR.1, zl_32, pk_mul, nI_add, if_pos (nI_le (by omega) (by omega)), zbg, zgd_t]
    unfold zan
    rw [Bool.and_false, Bool.or_false]
  | succ d ih =>
    intro i c m h
    obtain ⟨e1, e2, e3, e4⟩ := hR.2 i (by omega)
    rw [show m + (d + 1) + 1 = (m + d + 1) + 1 from rfl, zs_sth]
    unfold f_X9_isStarThere_8b f_X9_isStarThere_47 f_X9_isStarThere_48
    rw [zgd_i (by omega) (by omega), nI_clamp (by omega), hR.1, zl_32, pk_mul, nI_add, if_neg (nI_ge (by omega) (by omega)), zgd_i (by omega) (by omega), nI_clamp (by omega), e1, zl_10, pk_mul, nI_1, Nat.add_assoc (32 * s) i 1, zl_0, zl_1, show zb c ||| nI 0 = zb (c || false) from zbo c false, show zb c ||| nI 1 = zb (c || true) from zbo c true, ih (i + 1) _ m (by omega), ih (i + 1) _ m (by omega)]
    show _ = some (zb (c || (decide (0 < n) && (zqa R (nI (10 * n)) i || zan (zqa R (nI (10 * n))) d (i + 1)))))
    simp only [nI_leI (show n < 2 ^ 31 by omega) (show 0 < 2 ^ 31 by decide)]
    by_cases h1 : n ≤ 0
    · rw [if_pos h1, decide_eq_false (show ¬ 0 < n by omega), Bool.or_false, Bool.false_and, Bool.false_and]
    · rw [if_neg h1, decide_eq_true (show 0 < n by omega), Bool.true_and, Bool.true_and]
      by_cases h2 : nI (zP R i) = nI (10 * n)
      · rw [if_pos h2, show zqa R (nI (10 * n)) i = true from decide_eq_true h2, Bool.true_or, Bool.or_assoc, Bool.true_or]
      · rw [if_neg h2, show zqa R (nI (10 * n)) i = false from decide_eq_false h2, Bool.false_or, Bool.or_false]
theorem z9sth {σ : zt_St} {s : Nat} {R : zR} {n : Nat} (hk : zM s R) (hR : zRM σ s R) (hn : n < 100000) : f_X9_isStarThere σ (nI s) (nI n) = some (zb (decide (0 < n) && zan (zqa R (nI (10 * n))) R.1 0)) := by
  have q := hk.2
  unfold f_X9_isStarThere
  rw [zfu R.1 (by omega), zl_32, pk_mul, zl_0]
  exact (z9sthL hk hR hn R.1 0 false _ (by omega)).trans (by rw [Bool.false_or])

def zcl (R : zR) (b : Option Nat) (i : Nat) : Bool := match b with | none => true | some j => decide (zP R i < zP R j)
def zqc (R : zR) (n i : Nat) : Bool := decide (zS R i = 3) && zun n (zP R i)
def zcu (R : zR) (n : Nat) : Nat → Nat → Option Nat → Option Nat
  | 0, _, b => b
  | d + 1, i, b => zcu R n d (i + 1) (if (zqc R n i && zcl R b i) = true then some i else b)
def oP (R : zR) (b : Option Nat) : Int32 := match b with | none => -1 | some j => nI (zP R j)
theorem zs_cut {σ : zt_St} {k n : Nat} {a b c d : Int32} : f_X4_cutOver_7 σ k (n + 1) a b c d = f_X4_cutOver_7b σ k (f_X4_cutOver_7 σ k n) a b c d := rfl
theorem z3cutL {σ : zt_St} {k M : Nat} {R : zR} {n : Nat} (hk : zK k M R) (hR : zRC σ k R) (hb : zRB R) (hn : n < 10000) : ∀ d i b m, i + d = R.1 → (∀ j, b = some j → j < R.1) → f_X4_cutOver_7 σ k (m + d + 1) (nI n) (oI 0 b) (oP R b) (nI i) = some (oI 0 (zcu R n d i b)) := by
  obtain ⟨l1, l2, l3, l4, hM, h30⟩ := hk
  intro d
  induction d with
  | zero =>
    intro i b m h hbj
    rw [zs_cut]
    unfold f_X4_cutOver_7b
    rw [hR.1, if_pos (nI_le (by omega) (by omega))]
    rfl
  | succ d ih =>
    intro i b m h hbj
    obtain ⟨e1, e2, e3, e4⟩ := hR.2 i (by omega)
    have b1 := hb i (by omega)
    have c0 := ih (i + 1) b m (by omega) hbj
    have c1 := ih (i + 1) (some i) m (by omega) (fun j e => by cases e; omega)
    rw [show oI 0 (some i) = nI i from congrArg nI (Nat.zero_add i), show oP R (some i) = nI (zP R i) from rfl] at c1
    rw [show m + (d + 1) + 1 = (m + d + 1) + 1 from rfl, zs_cut]
    unfold f_X4_cutOver_7b f_X4_cutOver_55 f_X4_cutOver_56 f_X4_cutOver_79 f_X4_cutOver_90
    rw [hR.1, if_neg (nI_ge (by omega) (by omega)), l1, l2, zln, if_neg (nI_ge (by omega) (by omega))]
    simp only [zgd_i (show i < M by omega) (show M < 2 ^ 31 by omega), nI_clamp (show i < 2 ^ 31 by omega), e1, e2, z3un hn (show zP R i < 2 ^ 31 by omega), zbd_s, nI_1, c0, c1, zl_0, zl_3, nI_eq (show zS R i < 2 ^ 31 by omega) (show 3 < 2 ^ 31 by decide), zb0, if_true, show ¬ (1 : Int32) = nI 0 by decide, if_false]
    show _ = some (oI 0 (zcu R n d (i + 1) (if (zqc R n i && zcl R b i) = true then some i else b)))
    unfold zqc
    by_cases h3 : zS R i = 3
    · rw [if_pos h3, decide_eq_true h3, Bool.true_and]
      cases hu : zun n (zP R i) with
      | false => rw [if_pos rfl, Bool.false_and, if_neg (by decide)]
      | true =>
        rw [if_neg (by decide), Bool.true_and]
        cases b with
        | none => rw [if_pos (show oI 0 none = -1 from rfl)]; rfl
        | some j =>
          have hj := hbj j rfl
          have b2 := hb j hj
          rw [if_neg (show ¬ oI 0 (some j) = -1 from zm1 (by omega))]
          show (if nI (zP R j) ≤ nI (zP R i) then _ else _) = _
          rw [show zcl R (some j) i = decide (zP R i < zP R j) from rfl]
          by_cases h4 : zP R i < zP R j
          · rw [if_neg (nI_ge h4 (by omega)), decide_eq_true h4, if_pos rfl]
          · rw [if_pos (nI_le (by omega) (by omega)), decide_eq_false h4, if_neg (by decide)]
    · rw [if_neg h3, decide_eq_false h3, Bool.false_and, Bool.false_and, if_neg (by decide)]
def zcut (R : zR) (n : Nat) : Option Nat := zcu R n R.1 0 none
theorem z3cut {σ : zt_St} {k M : Nat} {R : zR} {n : Nat} (hk : zK k M R) (hR : zRC σ k R) (hb : zRB R) (hn : n < 10000) : f_X4_cutOver σ k (nI n) = some (oI 0 (zcut R n)) := by
  have q := hk.2.2.2.2
  unfold f_X4_cutOver
  rw [zfu R.1 (by omega), zl_0]
  exact z3cutL hk hR hb hn R.1 0 none _ (by omega) (fun j e => nomatch e)
theorem zs_cut9 {σ : zt_St} {n : Nat} {a b c d : Int32} : f_X9_cutAbove_8 σ (n + 1) a b c d = f_X9_cutAbove_8b σ (f_X9_cutAbove_8 σ n) a b c d := rfl
theorem z9cutL {σ : zt_St} {s : Nat} {R : zR} {n : Nat} (hk : zM s R) (hR : zRM σ s R) (hb : zRB R) (hn : n < 10000) : ∀ d i b m, i + d = R.1 → (∀ j, b = some j → j < R.1 ∧ zun n (zP R j) = true) → f_X9_cutAbove_8 σ (m + d + 1) (nI s) (nI n) (oI (32 * s) b) (nI (32 * s + i)) = some (oI (32 * s) (zcu R n d i b)) := by
  obtain ⟨hs, h30⟩ := hk
  intro d
  induction d with
  | zero =>
    intro i b m h hbj
    rw [zs_cut9]
    unfold f_X9_cutAbove_8b
    rw [zgd_i (by omega) (by omega), nI_clamp (by omega), hR.1, zl_32, pk_mul, nI_add, if_pos (nI_le (by omega) (by omega))]
    rfl
  | succ d ih =>
    intro i b m h hbj
    obtain ⟨e1, e2, e3, e4⟩ := hR.2 i (by omega)
    have b1 := hb i (by omega)
    have c0 := ih (i + 1) b m (by omega) hbj
    rw [show m + (d + 1) + 1 = (m + d + 1) + 1 from rfl, zs_cut9]
    unfold f_X9_cutAbove_8b f_X9_cutAbove_53 f_X9_cutAbove_54 f_X9_cutAbove_93 f_X9_cutAbove_88 f_X9_cutAbove_94
    rw [zgd_i (by omega) (by omega), nI_clamp (by omega), hR.1, zl_32, pk_mul, nI_add, if_neg (nI_ge (by omega) (by omega))]
    simp only [zgd_i (show 32 * s + i < 416 by omega) (show 416 < 2 ^ 31 by decide), nI_clamp (show 32 * s + i < 2 ^ 31 by omega), e1, e2, z9un hn b1.1, z9fg b1.1, zbd_s, nI_1, Nat.add_assoc (32 * s) i 1, c0, zl_0, zl_3, nI_eq (show zS R i < 2 ^ 31 by omega) (show 3 < 2 ^ 31 by decide), zb0, if_true, show ¬ (1 : Int32) = nI 0 by decide, if_false]
    show _ = some (oI (32 * s) (zcu R n d (i + 1) (if (zqc R n i && zcl R b i) = true then some i else b)))
    unfold zqc
    by_cases h3 : zS R i = 3
    · rw [if_pos h3, decide_eq_true h3, Bool.true_and]
      cases hu : zun n (zP R i) with
      | false => rw [if_pos rfl, Bool.false_and, if_neg (by decide)]
      | true =>
        have c1 := ih (i + 1) (some i) m (by omega) (fun j e => by cases e; exact ⟨by omega, hu⟩)
        rw [show oI (32 * s) (some i) = nI (32 * s + i) from rfl] at c1
        rw [if_neg (by decide), Bool.true_and, c1]
        cases b with
        | none => rw [if_pos (show oI (32 * s) none = -1 from rfl)]; rfl
        | some j =>
          have hj := hbj j rfl
          have b2 := hb j hj.1
          have hf := zun_fg hn hu hj.2
          have f1 := zfg4 (zP R i)
          have f2 := zfg4 (zP R j)
          rw [if_neg (show ¬ oI (32 * s) (some j) = -1 from zm1 (by omega)), show oI (32 * s) (some j) = nI (32 * s + j) from rfl, zgd_i (by omega) (by omega), nI_clamp (by omega), (hR.2 j hj.1).1, z9fg b2.1, zbd_s]
          rw [show zcl R (some j) i = decide (zP R i < zP R j) from rfl]
          by_cases h4 : zP R i < zP R j
          · rw [if_neg (nI_ge (hf.mpr h4) (by omega)), decide_eq_true h4, if_pos rfl]
          · rw [if_pos (nI_le (Nat.le_of_not_lt (fun w => h4 (hf.mp w))) (by omega)), decide_eq_false h4, if_neg (by decide)]
    · rw [if_neg h3, decide_eq_false h3, Bool.false_and, Bool.false_and, if_neg (by decide)]
theorem z9cut {σ : zt_St} {s : Nat} {R : zR} {n : Nat} (hk : zM s R) (hR : zRM σ s R) (hb : zRB R) (hn : n < 10000) : f_X9_cutAbove σ (nI s) (nI n) = some (oI (32 * s) (zcut R n)) := by
  have q := hk.2
  unfold f_X9_cutAbove
  rw [zfu R.1 (by omega), zl_32, pk_mul]
  exact z9cutL hk hR hb hn R.1 0 none _ (by omega) (fun j e => nomatch e)
theorem zcu_c (R : zR) (n : Nat) : ∀ d i b, (zcu R n d i b = none → b = none ∧ ∀ j, i ≤ j → j < i + d → zqc R n j = false) ∧ (∀ l, zcu R n d i b = some l → (b = some l ∨ (i ≤ l ∧ l < i + d ∧ zqc R n l = true)) ∧ (∀ j, i ≤ j → j < i + d → zqc R n j = true → zP R l ≤ zP R j) ∧ (∀ j, b = some j → zP R l ≤ zP R j)) := by
  intro d
  induction d with
  | zero =>
    intro i b
    refine ⟨fun h => ⟨h, fun j a c => by omega⟩, fun l h => ⟨Or.inl h, fun j a c => by omega, fun j e => ?_⟩⟩
    have h : b = some l := h
    rw [h] at e
    cases e
    exact Nat.le_refl _
  | succ d ih =>
    intro i b
    have w := ih (i + 1) (if (zqc R n i && zcl R b i) = true then some i else b)
    show (zcu R n d (i + 1) _ = none → _) ∧ (∀ l, zcu R n d (i + 1) _ = some l → _)
    by_cases h : (zqc R n i && zcl R b i) = true
    · rw [if_pos h] at w ⊢
      rw [Bool.and_eq_true] at h
      refine ⟨fun e => (nomatch (w.1 e).1), fun l e => ?_⟩
      obtain ⟨w1, w2, w3⟩ := w.2 l e
      have li := w3 i rfl
      refine ⟨?_, fun j a c q => ?_, fun j q => ?_⟩
      · rcases w1 with w1 | ⟨a, c, q⟩
        · cases w1
          exact Or.inr ⟨Nat.le_refl i, by omega, h.1⟩
        · exact Or.inr ⟨by omega, by omega, q⟩
      · rcases Nat.lt_or_ge i j with v | v
        · exact w2 j v (by omega) q
        · rw [show j = i by omega]; exact li
      · subst q
        have := of_decide_eq_true h.2
        omega
    · rw [if_neg h] at w ⊢
      have hi : zqc R n i = true → ∃ j, b = some j ∧ zP R j ≤ zP R i := by
        intro q
        cases b with
        | none => exact absurd (by rw [q]; rfl) h
        | some j =>
          refine ⟨j, rfl, ?_⟩
          rcases Nat.lt_or_ge (zP R i) (zP R j) with v | v
          · exact absurd (by rw [q, Bool.true_and]; exact decide_eq_true v) h
          · exact v
      refine ⟨fun e => ⟨(w.1 e).1, fun j a c => ?_⟩, fun l e => ?_⟩
      · rcases Nat.lt_or_ge i j with v | v
        · exact (w.1 e).2 j v (by omega)
        · rw [show j = i by omega]
          cases q : zqc R n i with
          | false => rfl
          | true =>
            obtain ⟨j', q', _⟩ := hi q
            rw [(w.1 e).1] at q'
            cases q'
      · obtain ⟨w1, w2, w3⟩ := w.2 l e
        refine ⟨?_, fun j a c q => ?_, w3⟩
        · rcases w1 with w1 | ⟨a, c, q⟩
          · exact Or.inl w1
          · exact Or.inr ⟨by omega, by omega, q⟩
        · rcases Nat.lt_or_ge i j with v | v
          · exact w2 j v (by omega) q
          · rw [show j = i by omega] at q ⊢
            obtain ⟨j', q', q2⟩ := hi q
            have := w3 j' q'
            omega
theorem zcut_s {R : zR} {n l : Nat} (h : zcut R n = some l) : l < R.1 ∧ zS R l = 3 ∧ zun n (zP R l) = true ∧ ∀ j, j < R.1 → zS R j = 3 → zun n (zP R j) = true → zP R l ≤ zP R j := by
  obtain ⟨w1, w2, _⟩ := (zcu_c R n R.1 0 none).2 l h
  rcases w1 with w1 | ⟨_, a, q⟩
  · cases w1
  · unfold zqc at q
    rw [Bool.and_eq_true] at q
    refine ⟨by omega, of_decide_eq_true q.1, q.2, fun j c1 c2 c3 => w2 j (by omega) (by omega) ?_⟩
    unfold zqc
    rw [decide_eq_true c2, c3]
    rfl
theorem zcut_n {R : zR} {n : Nat} (h : zcut R n = none) : ∀ j, j < R.1 → ¬ (zS R j = 3 ∧ zun n (zP R j) = true) := by
  intro j c ⟨c2, c3⟩
  have := ((zcu_c R n R.1 0 none).1 h).2 j (by omega) (by omega)
  unfold zqc at this
  rw [decide_eq_true c2, c3] at this
  cases this
