/-! how many records another set has not just so, in both -/
def zqd (R O : zR) (i : Nat) : Bool := match zrw O (nI (zP R i)) (nI (zS R i)) with | none => true | some j => decide (zV O j ≠ zV R i) || decide (zL O j ≠ zL R i)
theorem zqd_n {R O : zR} {i : Nat} (h : zrw O (nI (zP R i)) (nI (zS R i)) = none) : zqd R O i = true := by unfold zqd; rw [h]
theorem zqd_j {R O : zR} {i j : Nat} (h : zrw O (nI (zP R i)) (nI (zS R i)) = some j) : zqd R O i = (decide (zV O j ≠ zV R i) || decide (zL O j ≠ zL R i)) := by unfold zqd; rw [h]
theorem zs_cni {σ : zt_St} {k k1 n : Nat} {a b : Int32} : f_X4_countNotIn_4 σ k k1 (n + 1) a b = f_X4_countNotIn_4b σ k k1 (f_X4_countNotIn_4 σ k k1 n) a b := rfl
theorem z3cniL {σ : zt_St} {k k1 M M1 : Nat} {R O : zR} (hk : zK k M R) (hR : zRC σ k R) (hb : zRB R) (hk1 : zK k1 M1 O) (hO : zRC σ k1 O) (hbO : zRB O) : ∀ d i c m, i + d = R.1 → f_X4_countNotIn_4 σ k k1 (m + d + 1) (nI c) (nI i) = some (nI (c + zct (zqd R O) d i)) := by
  have hM := hk.2.2.2.2
  have hM1 := hk1.2.2.2.2
  intro d
  induction d with
  | zero =>
    intro i c m h
    rw [zs_cni]
    unfold f_X4_countNotIn_4b
    rw [hR.1, if_pos (nI_le (by omega) (by omega))]
    rfl
  | succ d ih =>
    intro i c m h
    have q := z3pa hk hR (show i < R.1 by omega)
    have b := hb i (by omega)
    have i0 := ih (i + 1) c m (by omega)
    have i1 := ih (i + 1) (c + 1) m (by omega)
    rw [show m + (d + 1) + 1 = (m + d + 1) + 1 from rfl, zs_cni, zct_s]
    unfold f_X4_countNotIn_4b f_X4_countNotIn_62 f_X4_countNotIn_65
    rw [hR.1, if_neg (nI_ge (by omega) (by omega)), q.1, zbd_s, q.2.1, zbd_s, z3row hk1 hO, zbd_s, nI_1, nI_1, i0, i1]
    cases hz : zrw O (nI (zP R i)) (nI (zS R i)) with
    | none =>
      rw [if_pos (show oI 0 none = -1 from rfl), zqd_n hz, if_pos rfl, Nat.add_assoc]
    | some j =>
      have hj := (zrw_lt hz).1
      have bo := hbO j hj
      have e : oI 0 (some j) = nI j := congrArg nI (Nat.zero_add j)
      have q1 := z3pa hk1 hO hj
      rw [e, if_neg (zm1 (by omega)), q1.2.2.1, zbd_s, q.2.2.1, zbd_s, q1.2.2.2, zbd_s, q.2.2.2, zbd_s]
      simp only [nI_eq (show zV O j < 2 ^ 31 by omega) (show zV R i < 2 ^ 31 by omega), nI_eq (show zL O j < 2 ^ 31 by omega) (show zL R i < 2 ^ 31 by omega)]
      by_cases c1 : zV O j = zV R i
      · by_cases c2 : zL O j = zL R i
        · have e : zqd R O i = false := by rw [zqd_j hz, decide_eq_false (show ¬ zV O j ≠ zV R i from fun w => w c1), decide_eq_false (show ¬ zL O j ≠ zL R i from fun w => w c2)]; rfl
          rw [if_pos c1, if_pos c2, e, if_neg (by decide), Nat.zero_add]
        · have e : zqd R O i = true := by rw [zqd_j hz, decide_eq_true (show zL O j ≠ zL R i from c2), Bool.or_true]
          rw [if_pos c1, if_neg c2, e, if_pos rfl, Nat.add_assoc]
      · have e : zqd R O i = true := by rw [zqd_j hz, decide_eq_true (show zV O j ≠ zV R i from c1), Bool.true_or]
        rw [if_neg c1, e, if_pos rfl, Nat.add_assoc]
theorem z3cni {σ : zt_St} {k k1 M M1 : Nat} {R O : zR} (hk : zK k M R) (hR : zRC σ k R) (hb : zRB R) (hk1 : zK k1 M1 O) (hO : zRC σ k1 O) (hbO : zRB O) : f_X4_countNotIn σ k k1 = some (nI (zct (zqd R O) R.1 0)) := by
  have hM := hk.2.2.2.2
  unfold f_X4_countNotIn
  rw [zfu R.1 (by omega), zl_0, z3cniL hk hR hb hk1 hO hbO R.1 0 0 _ (by omega), Nat.zero_add]
theorem zs_unl {σ : zt_St} {n : Nat} {a b c d : Int32} : f_X9_unlike_8 σ (n + 1) a b c d = f_X9_unlike_8b σ (f_X9_unlike_8 σ n) a b c d := rfl
theorem z9unlL {σ : zt_St} {s o : Nat} {R O : zR} (hk : zM s R) (hR : zRM σ s R) (hb : zRB R) (hk1 : zM o O) (hO : zRM σ o O) (hbO : zRB O) : ∀ d i c m, i + d = R.1 → f_X9_unlike_8 σ (m + d + 1) (nI s) (nI o) (nI c) (nI (32 * s + i)) = some (nI (c + zct (zqd R O) d i)) := by
  obtain ⟨hs, h30⟩ := hk
  have hk1' := hk1
  obtain ⟨ho, h31⟩ := hk1
  intro d
  induction d with
  | zero =>
    intro i c m h
    rw [zs_unl]
    unfold f_X9_unlike_8b
    rw [zgd_i (by omega) (by omega), nI_clamp (by omega), hR.1, zl_32, pk_mul, nI_add, if_pos (nI_le (by omega) (by omega))]
    rfl
  | succ d ih =>
    intro i c m h
    obtain ⟨e1, e2, e3, e4⟩ := hR.2 i (by omega)
    have b := hb i (by omega)
    have i0 := ih (i + 1) c m (by omega)
    have i1 := ih (i + 1) (c + 1) m (by omega)
    rw [← Nat.add_assoc] at i0 i1
    rw [show m + (d + 1) + 1 = (m + d + 1) + 1 from rfl, zs_unl, zct_s]
    unfold f_X9_unlike_8b f_X9_unlike_86 f_X9_unlike_91
    rw [zgd_i (by omega) (by omega), nI_clamp (by omega), hR.1, zl_32, pk_mul, nI_add, if_neg (nI_ge (by omega) (by omega)), zgd_i (by omega) (by omega), zgd_i (by omega) (by omega), nI_clamp (by omega), e1, e2, z9find hk1' hO, zbd_s, nI_1, nI_1, show nI c + 0 = nI c from nI_add c 0, i0, i1, zgd_i (show 32 * s + i < 416 by omega) (by decide), e3, e4]
    cases hz : zrw O (nI (zP R i)) (nI (zS R i)) with
    | none =>
      rw [if_pos (show oI (32 * o) none = -1 from rfl), zqd_n hz, if_pos rfl, Nat.add_assoc]
    | some j =>
      have hj := (zrw_lt hz).1
      have bo := hbO j hj
      have q1 := hO.2 j hj
      rw [if_neg (oI_1 (by omega)), show oI (32 * o) (some j) = nI (32 * o + j) from rfl]
      simp only [zgd_i (show 32 * o + j < 416 by omega) (show 416 < 2 ^ 31 by decide), zgd_i (show 32 * s + i < 416 by omega) (show 416 < 2 ^ 31 by decide), nI_clamp (show 32 * o + j < 2 ^ 31 by omega), q1.2.2.1, q1.2.2.2, nI_eq (show zV O j < 2 ^ 31 by omega) (show zV R i < 2 ^ 31 by omega), nI_eq (show zL O j < 2 ^ 31 by omega) (show zL R i < 2 ^ 31 by omega)]
      by_cases c1 : zV O j = zV R i
      · by_cases c2 : zL O j = zL R i
        · have e : zqd R O i = false := by rw [zqd_j hz, decide_eq_false (show ¬ zV O j ≠ zV R i from fun w => w c1), decide_eq_false (show ¬ zL O j ≠ zL R i from fun w => w c2)]; rfl
          rw [if_pos c1, if_pos c2, e, if_neg (by decide), Nat.zero_add]
        · have e : zqd R O i = true := by rw [zqd_j hz, decide_eq_true (show zL O j ≠ zL R i from c2), Bool.or_true]
          rw [if_pos c1, if_neg c2, e, if_pos rfl, Nat.add_assoc]
      · have e : zqd R O i = true := by rw [zqd_j hz, decide_eq_true (show zV O j ≠ zV R i from c1), Bool.true_or]
        rw [if_neg c1, e, if_pos rfl, Nat.add_assoc]
theorem z9unl {σ : zt_St} {s o : Nat} {R O : zR} (hk : zM s R) (hR : zRM σ s R) (hb : zRB R) (hk1 : zM o O) (hO : zRM σ o O) (hbO : zRB O) : f_X9_unlike σ (nI s) (nI o) = some (nI (zct (zqd R O) R.1 0)) := by
  have q := hk.2
  unfold f_X9_unlike
  rw [zfu R.1 (by omega), zl_32, pk_mul, zl_0]
  exact (z9unlL hk hR hb hk1 hO hbO R.1 0 0 _ (by omega)).trans (by rw [Nat.zero_add])
