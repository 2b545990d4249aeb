/-! kept answers: the reference moves rows up -/
def zsh (σ : zt_St) (i : Nat) : zt_St := fun a b => if 114 ≤ a ∧ a ≤ 120 ∧ b = i then σ a (i + 1) else σ a b
theorem zst_e {σ : zt_St} {k j : Nat} {x : Int32} : zt_st σ k j x = fun a b => if a = k ∧ b = j then x else σ a b := rfl
theorem zsh_e {σ : zt_St} {i : Nat} : zt_st (zt_st (zt_st (zt_st (zt_st (zt_st (zt_st σ 114 i (σ 114 (i + 1))) 115 i (σ 115 (i + 1))) 116 i (σ 116 (i + 1))) 117 i (σ 117 (i + 1))) 118 i (σ 118 (i + 1))) 119 i (σ 119 (i + 1))) 120 i (σ 120 (i + 1)) = zsh σ i := by
  funext a b
  unfold zsh
  by_cases hb : b = i
  · subst hb
    by_cases h : 114 ≤ a ∧ a ≤ 120
    · rw [if_pos ⟨h.1, h.2, rfl⟩]
      have : a = 114 ∨ a = 115 ∨ a = 116 ∨ a = 117 ∨ a = 118 ∨ a = 119 ∨ a = 120 := by omega
      rcases this with q | q | q | q | q | q | q <;> subst q
      · rw [zst_o (by decide), zst_o (by decide), zst_o (by decide), zst_o (by decide), zst_o (by decide), zst_o (by decide), zst_s]
      · rw [zst_o (by decide), zst_o (by decide), zst_o (by decide), zst_o (by decide), zst_o (by decide), zst_s]
      · rw [zst_o (by decide), zst_o (by decide), zst_o (by decide), zst_o (by decide), zst_s]
      · rw [zst_o (by decide), zst_o (by decide), zst_o (by decide), zst_s]
      · rw [zst_o (by decide), zst_o (by decide), zst_s]
      · rw [zst_o (by decide), zst_s]
      · rw [zst_s]
    · rw [if_neg (fun w => h ⟨w.1, w.2.1⟩), zst_o (by omega), zst_o (by omega), zst_o (by omega), zst_o (by omega), zst_o (by omega), zst_o (by omega), zst_o (by omega)]
  · rw [if_neg (fun w => hb w.2.2), zst_j hb, zst_j hb, zst_j hb, zst_j hb, zst_j hb, zst_j hb, zst_j hb]
theorem zs_shf {n : Nat} {σ : zt_St} {a : Int32} : f_X9_shifts_12 (n + 1) σ a = f_X9_shifts_12b (f_X9_shifts_12 n) σ a := rfl
theorem z9shL {c : Nat} (h40 : c ≤ 40) : ∀ d i (σ : zt_St) m, i + d = c → σ 94 24 = nI c → ∃ σ', f_X9_shifts_12 (m + d + 1) σ (nI i) = some σ' ∧ (∀ a, a < 114 ∨ 120 < a → σ' a = σ a) ∧ ∀ a, 114 ≤ a → a ≤ 120 → ∀ j, σ' a j = if i ≤ j ∧ j < c then σ a (j + 1) else σ a j := by
  intro d
  induction d with
  | zero =>
    intro i σ m h hc
    rw [zs_shf]
    unfold f_X9_shifts_12b
    rw [hc, if_pos (nI_le (by omega) (by omega))]
    exact ⟨σ, rfl, fun _ _ => rfl, fun a _ _ j => (if_neg (by omega)).symm⟩
  | succ d ih =>
    intro i σ m h hc
    obtain ⟨σ', w1, w2, w3⟩ := ih (i + 1) (zsh σ i) m (by omega) ((if_neg (by omega)).trans hc)
    rw [show m + (d + 1) + 1 = (m + d + 1) + 1 from rfl, zs_shf]
    unfold f_X9_shifts_12b
    rw [hc, if_neg (nI_ge (by omega) (by omega)), nI_1]
    simp only [zgd_i (show i < 41 by omega) (show 41 < 2 ^ 31 by decide), zgd_i (show i + 1 < 41 by omega) (show 41 < 2 ^ 31 by decide), nI_clamp (show i < 2 ^ 31 by omega), nI_clamp (show i + 1 < 2 ^ 31 by omega), zlt_e]
    have e := @zsh_e σ i
    refine ⟨σ', ?_, fun a ha => ?_, fun a ha1 ha2 j => ?_⟩
    · rw [← w1, ← e]
      rfl
    · rw [w2 a ha]
      funext b
      exact if_neg (by omega)
    · rw [w3 a ha1 ha2 j]
      unfold zsh
      by_cases c1 : j = i
      · subst c1
        rw [if_neg (by omega), if_pos ⟨ha1, ha2, rfl⟩, if_pos (by omega)]
      · by_cases c2 : i + 1 ≤ j ∧ j < c
        · rw [if_pos c2, if_neg (by omega), if_pos (by omega)]
        · rw [if_neg c2, if_neg (by omega), if_neg (by omega)]
theorem z9sh {c k : Nat} {σ : zt_St} (h41 : c + 1 ≤ 41) (hk : k ≤ c) (hc : σ 94 24 = nI (c + 1)) : ∃ σ', f_X9_shifts σ (nI k) = some σ' ∧ σ' 94 24 = nI c ∧ (∀ a, a < 94 ∨ 94 < a ∧ a < 114 ∨ 120 < a → σ' a = σ a) ∧ (∀ j, j ≠ 24 → σ' 94 j = σ 94 j) ∧ ∀ a, 114 ≤ a → a ≤ 120 → ∀ j, σ' a j = if k ≤ j ∧ j < c then σ a (j + 1) else σ a j := by
  unfold f_X9_shifts
  rw [hc, zl_1, pk_sub (by omega), Nat.add_sub_cancel, zlt_e, zfu (c - k) (by omega)]
  obtain ⟨σ', w1, w2, w3⟩ := z9shL (c := c) (by omega) (c - k) k (zt_st σ 94 24 (nI c)) (4999 - (c - k)) (by omega) zst_s
  refine ⟨σ', w1, ?_, fun a ha => ?_, fun j hj => ?_, fun a h1 h2 j => ?_⟩
  · rw [w2 94 (by omega)]; exact zst_s
  · rw [w2 a (by omega)]; exact zst_o (by omega)
  · rw [w2 94 (by omega)]; exact zst_j hj
  · rw [w3 a h1 h2 j, zst_o (by omega)]
