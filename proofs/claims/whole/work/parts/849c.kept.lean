/-! kept answers: rows looked up, in both -/
def zkq (A B : Nat → Int32) (x y : Int32) (j : Nat) : Bool := decide (A j = x ∧ B j = y)
theorem zkq_cases {A B : Nat → Int32} {x y : Int32} {i d : Nat} {t : Option Int32} (e : t = some (oI 0 (zfi (zkq A B x y) d (i + 1)))) : (if A i = x then (if B i = y then some (nI i) else t) else t) = some (oI 0 (zfi (zkq A B x y) (d + 1) i)) := by
  show _ = some (oI 0 (if zkq A B x y i = true then some i else zfi (zkq A B x y) d (i + 1)))
  by_cases h1 : A i = x
  · by_cases h2 : B i = y
    · rw [if_pos h1, if_pos h2, if_pos (show zkq A B x y i = true from decide_eq_true ⟨h1, h2⟩)]
      exact congrArg (fun w => some (nI w)) (Nat.zero_add i).symm
    · rw [if_pos h1, if_neg h2, if_neg (show ¬ zkq A B x y i = true from fun w => h2 (of_decide_eq_true w).2)]
      exact e
  · rw [if_neg h1, if_neg (show ¬ zkq A B x y i = true from fun w => h1 (of_decide_eq_true w).1)]
    exact e
theorem zs_kro {σ : zt_St} {n : Nat} {a b c : Int32} : f_X2_rowOf_2 σ (n + 1) a b c = f_X2_rowOf_2b σ (f_X2_rowOf_2 σ n) a b c := rfl
theorem z2roL {σ : zt_St} {c : Nat} {x y : Int32} (hc : σ 81 8 = nI c) (h40 : c ≤ 40) : ∀ d i m, i + d = c → f_X2_rowOf_2 σ (m + d + 1) x y (nI i) = some (oI 0 (zfi (zkq (σ 82) (σ 83) x y) d i)) := by
  intro d
  induction d with
  | zero =>
    intro i m h
    rw [zs_kro]
    unfold f_X2_rowOf_2b
    rw [hc, if_pos (nI_le (by omega) (by omega))]
    rfl
  | succ d ih =>
    intro i m h
    rw [show m + (d + 1) + 1 = (m + d + 1) + 1 from rfl, zs_kro]
    unfold f_X2_rowOf_2b f_X2_rowOf_41
    rw [hc, if_neg (nI_ge (by omega) (by omega)), zl_40, if_neg (nI_ge (by omega) (by omega)), zgd_i (by omega) (by decide), zgd_i (by omega) (by decide), nI_clamp (by omega), nI_1]
    exact zkq_cases (ih (i + 1) m (by omega))
theorem z2ro {σ : zt_St} {c : Nat} {x y : Int32} (hc : σ 81 8 = nI c) (h40 : c ≤ 40) : f_X2_rowOf σ x y = some (oI 0 (zfi (zkq (σ 82) (σ 83) x y) c 0)) := by
  unfold f_X2_rowOf
  rw [zfu c (by omega), zl_0]
  exact z2roL hc h40 c 0 _ (by omega)
theorem zs_kof {σ : zt_St} {n : Nat} {a b c : Int32} : f_X9_keptOf_2 σ (n + 1) a b c = f_X9_keptOf_2b σ (f_X9_keptOf_2 σ n) a b c := rfl
theorem z9koL {σ : zt_St} {c : Nat} {x y : Int32} (hc : σ 94 24 = nI c) (h40 : c ≤ 40) : ∀ d i m, i + d = c → f_X9_keptOf_2 σ (m + d + 1) x y (nI i) = some (oI 0 (zfi (zkq (σ 114) (σ 115) x y) d i)) := by
  intro d
  induction d with
  | zero =>
    intro i m h
    rw [zs_kof]
    unfold f_X9_keptOf_2b
    rw [hc, if_pos (nI_le (by omega) (by omega))]
    rfl
  | succ d ih =>
    intro i m h
    rw [show m + (d + 1) + 1 = (m + d + 1) + 1 from rfl, zs_kof]
    unfold f_X9_keptOf_2b f_X9_keptOf_32
    rw [hc, if_neg (nI_ge (by omega) (by omega)), zgd_i (by omega) (by decide), zgd_i (by omega) (by decide), nI_clamp (by omega), nI_1]
    exact zkq_cases (ih (i + 1) m (by omega))
theorem z9ko {σ : zt_St} {c : Nat} {x y : Int32} (hc : σ 94 24 = nI c) (h40 : c ≤ 40) : f_X9_keptOf σ x y = some (oI 0 (zfi (zkq (σ 114) (σ 115) x y) c 0)) := by
  unfold f_X9_keptOf
  rw [zfu c (by omega), zl_0]
  exact z9koL hc h40 c 0 _ (by omega)
