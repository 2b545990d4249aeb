/-! what changes sets of records, in both -/
theorem zst_o {σ : zt_St} {k j a : Nat} {x : Int32} (h : a ≠ k) : zt_st σ k j x a = σ a := zt_st_o a h
theorem zst_s {σ : zt_St} {k j : Nat} {x : Int32} : zt_st σ k j x k j = x := by unfold zt_st; rw [if_pos ⟨rfl, rfl⟩]
theorem zst_j {σ : zt_St} {k j a b : Nat} {x : Int32} (h : b ≠ j) : zt_st σ k j x a b = σ a b := by unfold zt_st; rw [if_neg (fun w => h w.2)]
theorem zRC_f {σ σ' : zt_St} {k : Nat} {R : zR} (hR : zRC σ k R) (h : ∀ c, k ≤ c → c ≤ k + 4 → σ' c = σ c) : zRC σ' k R := by
  unfold zRC at *
  rw [h k (by omega) (by omega), h (k + 1) (by omega) (by omega), h (k + 2) (by omega) (by omega), h (k + 3) (by omega) (by omega), h (k + 4) (by omega) (by omega)]
  exact hR
theorem zRC_st {σ : zt_St} {k a j : Nat} {x : Int32} {R : zR} (hR : zRC σ k R) (h : a < k ∨ k + 4 < a) : zRC (zt_st σ a j x) k R := zRC_f hR (fun c h1 h2 => zst_o (by omega))
theorem zRM_f {σ σ' : zt_St} {s : Nat} {R : zR} (hR : zRM σ s R) (h : ∀ c, 103 ≤ c → c ≤ 107 → σ' c = σ c) : zRM σ' s R := by
  unfold zRM at *
  rw [h 103 (by omega) (by omega), h 104 (by omega) (by omega), h 105 (by omega) (by omega), h 106 (by omega) (by omega), h 107 (by omega) (by omega)]
  exact hR
def zc4 (σ : zt_St) (k r : Nat) (a b c d : Int32) : zt_St := zt_st (zt_st (zt_st (zt_st σ (k + 1) r a) (k + 2) r b) (k + 3) r c) (k + 4) r d
theorem zc4_1 {σ : zt_St} {k r j : Nat} {a b c d : Int32} : zc4 σ k r a b c d (k + 1) j = if j = r then a else σ (k + 1) j := by
  unfold zc4
  rw [zst_o (by omega), zst_o (by omega), zst_o (by omega)]
  unfold zt_st
  by_cases h : j = r
  · rw [if_pos ⟨rfl, h⟩, if_pos h]
  · rw [if_neg (fun w => h w.2), if_neg h]
theorem zc4_2 {σ : zt_St} {k r j : Nat} {a b c d : Int32} : zc4 σ k r a b c d (k + 2) j = if j = r then b else σ (k + 2) j := by
  unfold zc4
  rw [zst_o (by omega), zst_o (by omega)]
  by_cases h : j = r
  · rw [if_pos h, h, zst_s]
  · rw [if_neg h, zst_j h, zst_o (by omega)]
theorem zc4_3 {σ : zt_St} {k r j : Nat} {a b c d : Int32} : zc4 σ k r a b c d (k + 3) j = if j = r then c else σ (k + 3) j := by
  unfold zc4
  rw [zst_o (by omega)]
  by_cases h : j = r
  · rw [if_pos h, h, zst_s]
  · rw [if_neg h, zst_j h, zst_o (by omega), zst_o (by omega)]
theorem zc4_4 {σ : zt_St} {k r j : Nat} {a b c d : Int32} : zc4 σ k r a b c d (k + 4) j = if j = r then d else σ (k + 4) j := by
  unfold zc4
  by_cases h : j = r
  · rw [if_pos h, h, zst_s]
  · rw [if_neg h, zst_j h, zst_o (by omega), zst_o (by omega), zst_o (by omega)]
theorem zc4_o {σ : zt_St} {k r e : Nat} {a b c d : Int32} (h : e ≤ k ∨ k + 4 < e) : zc4 σ k r a b c d e = σ e := by
  unfold zc4
  rw [zst_o (by omega), zst_o (by omega), zst_o (by omega), zst_o (by omega)]
def zup (R : zR) (j : Nat) (r : Nat × Nat × Nat × Nat) : Nat → Nat × Nat × Nat × Nat := fun i => if i = j then r else R.2 i
def zput (R : zR) (p s v l : Nat) : zR := match zrw R (nI p) (nI s) with | none => (R.1 + 1, zup R R.1 (p, s, v, l)) | some j => (R.1, zup R j (p, s, v, l))
def zrem (R : zR) (j : Nat) : zR := (R.1 - 1, zup R j (R.2 (R.1 - 1)))
theorem zRC_up {σ : zt_St} {k N j : Nat} {R : zR} {p s v l : Nat} (hR : zRC σ k R) (hN : N ≤ R.1 + 1) (hj : N = R.1 + 1 → j = R.1) (h4 : σ k 4 = nI N) : zRC (zc4 σ k j (nI p) (nI s) (nI v) (nI l)) k (N, zup R j (p, s, v, l)) := by
  refine ⟨?_, fun i hi => ?_⟩
  · rw [zc4_o (by omega)]; exact h4
  · have hi : i < N := hi
    rw [zc4_1, zc4_2, zc4_3, zc4_4]
    unfold zP zS zV zL zup
    by_cases c : i = j
    · simp only [if_pos c]
      exact ⟨trivial, trivial, trivial, trivial⟩
    · simp only [if_neg c]
      exact hR.2 i (by omega)
theorem zRC_n {σ : zt_St} {k N : Nat} {R : zR} (hR : zRC σ k R) : zRC (zt_st σ k 4 (nI N)) k (N, R.2) ∨ R.1 < N := by
  rcases Nat.lt_or_ge R.1 N with h | h
  · exact Or.inr h
  · refine Or.inl ⟨zst_s, fun i hi => ?_⟩
    have hi : i < N := hi
    have w := hR.2 i (by omega)
    rw [zst_o (by omega), zst_o (by omega), zst_o (by omega), zst_o (by omega)]
    exact w
theorem z3s42 {σ : zt_St} {k M r : Nat} {a b c d : Int32} (l1 : zt_ln (k + 1) = M) (l2 : zt_ln (k + 2) = M) (l3 : zt_ln (k + 3) = M) (l4 : zt_ln (k + 4) = M) (h : r < M) (h30 : M ≤ 30) : f_X4_set_42 k σ a b c d (nI r) = some (zc4 σ k r a b c d) := by
  unfold f_X4_set_42
  rw [if_neg (nI_pos (by omega)), l1, l2, l3, l4, zln, if_neg (nI_ge h (by omega)), zgd_i h (by omega), nI_clamp (by omega), zlt_e, zgd_i h (by omega), zlt_e, zgd_i h (by omega), zlt_e, zgd_i h (by omega), zlt_e]
  rfl
theorem z3set {σ : zt_St} {k M : Nat} {R : zR} {p s v l : Nat} (hk : zK k M R) (hM : R.1 < M) (hR : zRC σ k R) : ∃ σ', f_X4_set σ k (nI p) (nI s) (nI v) (nI l) = some σ' ∧ zRC σ' k (zput R p s v l) ∧ ∀ e, e < k ∨ k + 4 < e → σ' e = σ e := by
  have hk' := hk
  obtain ⟨l1, l2, l3, l4, _, h30⟩ := hk
  unfold f_X4_set zput
  rw [z3row hk' hR, zbd_s]
  cases hz : zrw R (nI p) (nI s) with
  | none =>
    rw [if_pos (show oI 0 none = -1 from rfl), hR.1, l1, zln, if_neg (nI_ge hM (by omega)), zlt_e, z3s42 l1 l2 l3 l4 (by omega) h30, nI_1]
    refine ⟨_, rfl, ?_, fun e he => ?_⟩
    · have w : zRC (zt_st σ k 4 (nI (R.1 + 1))) k (R.1 + 1, R.2) ∨ True := Or.inr trivial
      refine ⟨?_, fun i hi => ?_⟩
      · rw [zc4_o (by omega)]; exact zst_s
      · have hi : i < R.1 + 1 := hi
        rw [zc4_1, zc4_2, zc4_3, zc4_4]
        unfold zP zS zV zL zup
        by_cases c : i = R.1
        · simp only [if_pos c]
          exact ⟨trivial, trivial, trivial, trivial⟩
        · simp only [if_neg c]
          rw [zst_o (by omega), zst_o (by omega), zst_o (by omega), zst_o (by omega)]
          exact hR.2 i (by omega)
    · rw [zc4_o (by omega), zst_o (by omega)]
  | some j =>
    have hj := (zrw_lt hz).1
    have e : oI 0 (some j) = nI j := congrArg nI (Nat.zero_add j)
    rw [e, if_neg (zm1 (by omega)), z3s42 l1 l2 l3 l4 (by omega) h30]
    refine ⟨_, rfl, zRC_up hR (by omega) (fun w => by omega) hR.1, fun e he => zc4_o (by omega)⟩
theorem z3rem {σ : zt_St} {k M : Nat} {R : zR} {x y : Int32} (hk : zK k M R) (hR : zRC σ k R) : (zrw R x y = none ∧ f_X4_remove σ k x y = some (0, σ)) ∨ ∃ j σ', zrw R x y = some j ∧ f_X4_remove σ k x y = some (1, σ') ∧ zRC σ' k (zrem R j) ∧ ∀ e, e < k ∨ k + 4 < e → σ' e = σ e := by
  have hk' := hk
  obtain ⟨l1, l2, l3, l4, hM, h30⟩ := hk
  unfold f_X4_remove
  rw [z3row hk' hR, zbd_s]
  cases hz : zrw R x y with
  | none =>
    refine Or.inl ⟨rfl, ?_⟩
    rw [if_pos (show oI 0 none < 0 by decide)]
  | some j =>
    have hj := (zrw_lt hz).1
    have e : oI 0 (some j) = nI j := congrArg nI (Nat.zero_add j)
    have q0 := z3pa hk' hR (show R.1 - 1 < R.1 by omega)
    have r1 : zRC (zt_st σ (k + 1) j (nI (zP R (R.1 - 1)))) k (R.1, zup R j (zP R (R.1 - 1), zS R j, zV R j, zL R j)) := by
      refine ⟨?_, fun i hi => ?_⟩
      · rw [zst_o (by omega)]; exact hR.1
      · have hi : i < R.1 := hi
        have w := hR.2 i hi
        rw [zst_o (show k + 2 ≠ k + 1 by omega), zst_o (show k + 3 ≠ k + 1 by omega), zst_o (show k + 4 ≠ k + 1 by omega)]
        by_cases c : i = j
        · subst c
          rw [zst_s]
          unfold zP zS zV zL zup at *
          simp only [if_true]
          exact ⟨trivial, w.2.1, w.2.2.1, w.2.2.2⟩
        · rw [zst_j c]
          unfold zP zS zV zL zup at *
          simp only [if_neg c]
          exact w
    refine Or.inr ⟨j, ?_⟩
    rw [e, if_neg (nI_pos (by omega)), l1, l2, l3, l4, zln, if_pos (nI_lt (show j < M by omega) (by omega)), hR.1, zl_1, pk_sub (by omega), q0.1, zbd_s, zgd_i (by omega) (by omega), nI_clamp (by omega), zlt_e]
    have s1 : zt_st σ (k + 1) j (nI (zP R (R.1 - 1))) = zt_st σ (k + 1) j (nI (zP R (R.1 - 1))) := rfl
    have t1 : f_X4_sortAt (zt_st σ (k + 1) j (nI (zP R (R.1 - 1)))) k (nI (R.1 - 1)) = some (nI (zS R (R.1 - 1))) := by
      have w := q0.2.1
      unfold f_X4_sortAt at w ⊢
      rw [zst_o (show k ≠ k + 1 by omega), zst_o (show k + 2 ≠ k + 1 by omega)]
      exact w
    rw [t1, zbd_s, zgd_i (by omega) (by omega), zlt_e]
    have t2 : f_X4_numberAt (zt_st (zt_st σ (k + 1) j (nI (zP R (R.1 - 1)))) (k + 2) j (nI (zS R (R.1 - 1)))) k (nI (R.1 - 1)) = some (nI (zV R (R.1 - 1))) := by
      have w := q0.2.2.1
      unfold f_X4_numberAt at w ⊢
      rw [zst_o (show k ≠ k + 2 by omega), zst_o (show k + 3 ≠ k + 2 by omega), zst_o (show k ≠ k + 1 by omega), zst_o (show k + 3 ≠ k + 1 by omega)]
      exact w
    rw [t2, zbd_s, zgd_i (by omega) (by omega), zlt_e]
    have t3 : f_X4_lifeAt (zt_st (zt_st (zt_st σ (k + 1) j (nI (zP R (R.1 - 1)))) (k + 2) j (nI (zS R (R.1 - 1)))) (k + 3) j (nI (zV R (R.1 - 1)))) k (nI (R.1 - 1)) = some (nI (zL R (R.1 - 1))) := by
      have w := q0.2.2.2
      unfold f_X4_lifeAt at w ⊢
      rw [zst_o (show k ≠ k + 3 by omega), zst_o (show k + 4 ≠ k + 3 by omega), zst_o (show k ≠ k + 2 by omega), zst_o (show k + 4 ≠ k + 2 by omega), zst_o (show k ≠ k + 1 by omega), zst_o (show k + 4 ≠ k + 1 by omega)]
      exact w
    rw [t3, zbd_s, zgd_i (by omega) (by omega), zlt_e, zlt_e]
    refine ⟨_, rfl, rfl, ?_, fun e he => ?_⟩
    · refine ⟨zst_s, fun i hi => ?_⟩
      have hi : i < R.1 - 1 := hi
      have w := hR.2 i (by omega)
      rw [zst_o (show k + 1 ≠ k by omega), zst_o (show k + 2 ≠ k by omega), zst_o (show k + 3 ≠ k by omega), zst_o (show k + 4 ≠ k by omega)]
      show zc4 σ k j _ _ _ _ (k + 1) i = _ ∧ zc4 σ k j _ _ _ _ (k + 2) i = _ ∧ zc4 σ k j _ _ _ _ (k + 3) i = _ ∧ zc4 σ k j _ _ _ _ (k + 4) i = _
      rw [zc4_1, zc4_2, zc4_3, zc4_4]
      unfold zP zS zV zL zrem zup
      by_cases c : i = j
      · simp only [if_pos c]
        exact ⟨trivial, trivial, trivial, trivial⟩
      · simp only [if_neg c]
        exact w
    · rw [zst_o (by omega)]
      exact zc4_o (by omega)
theorem zs_bec {k k1 n : Nat} {σ : zt_St} {a : Int32} : f_X4_become_18 k k1 (n + 1) σ a = f_X4_become_18b k k1 (f_X4_become_18 k k1 n) σ a := rfl
theorem z3becL {k k1 M M1 : Nat} {R : zR} (hk : zK k M R) (hk1 : zK k1 M1 R) (hd : k1 + 4 < k ∨ k + 4 < k1) : ∀ d i (σ : zt_St) m, i + d = R.1 → zRC σ k1 R → zRC σ k (i, R.2) ∨ True → σ k 4 = nI R.1 → (∀ j, j < i → σ (k + 1) j = nI (zP R j) ∧ σ (k + 2) j = nI (zS R j) ∧ σ (k + 3) j = nI (zV R j) ∧ σ (k + 4) j = nI (zL R j)) → ∃ σ', f_X4_become_18 k k1 (m + d + 1) σ (nI i) = some σ' ∧ zRC σ' k R ∧ ∀ e, e < k ∨ k + 4 < e → σ' e = σ e := by
  obtain ⟨l1, l2, l3, l4, hM, h30⟩ := hk
  intro d
  induction d with
  | zero =>
    intro i σ m h h1 _ h4 hj
    rw [zs_bec]
    unfold f_X4_become_18b
    rw [h4, if_pos (nI_le (by omega) (by omega))]
    exact ⟨σ, rfl, ⟨h4, fun j w => hj j (by omega)⟩, fun e _ => rfl⟩
  | succ d ih =>
    intro i σ m h h1 _ h4 hj
    have q0 := z3pa hk1 h1 (show i < R.1 by omega)
    have a1 : zRC (zt_st σ (k + 1) i (nI (zP R i))) k1 R := zRC_st h1 (by omega)
    have q1 := z3pa hk1 a1 (show i < R.1 by omega)
    have a2 : zRC (zt_st (zt_st σ (k + 1) i (nI (zP R i))) (k + 2) i (nI (zS R i))) k1 R := zRC_st a1 (by omega)
    have q2 := z3pa hk1 a2 (show i < R.1 by omega)
    have a3 : zRC (zt_st (zt_st (zt_st σ (k + 1) i (nI (zP R i))) (k + 2) i (nI (zS R i))) (k + 3) i (nI (zV R i))) k1 R := zRC_st a2 (by omega)
    have q3 := z3pa hk1 a3 (show i < R.1 by omega)
    rw [show m + (d + 1) + 1 = (m + d + 1) + 1 from rfl, zs_bec]
    unfold f_X4_become_18b
    rw [h4, if_neg (nI_ge (by omega) (by omega)), q0.1, zbd_s, l1, l2, l3, l4, zgd_i (by omega) (by omega), nI_clamp (by omega), zlt_e, q1.2.1, zbd_s, zgd_i (by omega) (by omega), zlt_e, q2.2.2.1, zbd_s, zgd_i (by omega) (by omega), zlt_e, q3.2.2.2, zbd_s, zgd_i (by omega) (by omega), zlt_e, nI_1]
    obtain ⟨σ', w1, w2, w3⟩ := ih (i + 1) (zc4 σ k i (nI (zP R i)) (nI (zS R i)) (nI (zV R i)) (nI (zL R i))) m (by omega) (zRC_st a3 (by omega)) (Or.inr trivial) (by rw [zc4_o (by omega)]; exact h4) (fun j hj' => by
      rw [zc4_1, zc4_2, zc4_3, zc4_4]
      by_cases c : j = i
      · subst c
        simp only [if_true]
        exact ⟨trivial, trivial, trivial, trivial⟩
      · simp only [if_neg c]
        exact hj j (by omega))
    exact ⟨σ', w1, w2, fun e he => by rw [w3 e he, zc4_o (by omega)]⟩
theorem z3bec {σ : zt_St} {k k1 M M1 : Nat} {R : zR} (hk : zK k M R) (hk1 : zK k1 M1 R) (hd : k1 + 4 < k ∨ k + 4 < k1) (h1 : zRC σ k1 R) : ∃ σ', f_X4_become σ k k1 = some σ' ∧ zRC σ' k R ∧ ∀ e, e < k ∨ k + 4 < e → σ' e = σ e := by
  have hM := hk.2.2.2.2
  unfold f_X4_become
  rw [h1.1, hk.1, zln, if_neg (nI_nlt hM.1 (by omega)), zlt_e, zfu R.1 (by omega), zl_0]
  obtain ⟨σ', w1, w2, w3⟩ := z3becL hk hk1 hd R.1 0 (zt_st σ k 4 (nI R.1)) (4999 - R.1) (by omega) (zRC_st h1 (by omega)) (Or.inr trivial) zst_s (fun j hj => by omega)
  exact ⟨σ', w1, w2, fun e he => by rw [w3 e he, zst_o (by omega)]⟩
