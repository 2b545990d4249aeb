/-! an answer is kept, in both -/
def zcC (σ : zt_St) (v : Nat) (F : Nat → Int32) (t : Nat) : zt_St := zt_st (zt_st (zt_st (zt_st (zt_st (zt_st (zt_st (zt_st (zt_st σ 82 v (F 0)) 83 v (F 1)) 84 v (F 2)) 85 v (F 3)) 86 v (F 4)) 87 v (F 5)) 88 v (F 6)) 89 v (nI t)) 81 9 (nI (t + 1))
theorem zst_if {σ : zt_St} {k j b : Nat} {x : Int32} : zt_st σ k j x k b = if b = j then x else σ k b := by
  unfold zt_st
  by_cases h : b = j
  · rw [if_pos ⟨rfl, h⟩, if_pos h]
  · rw [if_neg (fun w => h w.2), if_neg h]
theorem zcC_s {σ : zt_St} {v t : Nat} {F : Nat → Int32} : ∀ e, e < 7 → ∀ j, zcC σ v F t (82 + e) j = if j = v then F e else σ (82 + e) j := by
  intro e he j
  unfold zcC
  have h : e = 0 ∨ e = 1 ∨ e = 2 ∨ e = 3 ∨ e = 4 ∨ e = 5 ∨ e = 6 := by omega
  rcases h with h | h | h | h | h | h | h <;> subst h
  · rw [zst_o (by decide), zst_o (by decide), zst_o (by decide), zst_o (by decide), zst_o (by decide), zst_o (by decide), zst_o (by decide), zst_o (by decide)]; exact zst_if
  · rw [zst_o (by decide), zst_o (by decide), zst_o (by decide), zst_o (by decide), zst_o (by decide), zst_o (by decide), zst_o (by decide)]; exact zst_if.trans (by rw [zst_o (by decide)])
  · rw [zst_o (by decide), zst_o (by decide), zst_o (by decide), zst_o (by decide), zst_o (by decide), zst_o (by decide)]; exact zst_if.trans (by rw [zst_o (by decide), zst_o (by decide)])
  · rw [zst_o (by decide), zst_o (by decide), zst_o (by decide), zst_o (by decide), zst_o (by decide)]; exact zst_if.trans (by rw [zst_o (by decide), zst_o (by decide), zst_o (by decide)])
  · rw [zst_o (by decide), zst_o (by decide), zst_o (by decide), zst_o (by decide)]; exact zst_if.trans (by rw [zst_o (by decide), zst_o (by decide), zst_o (by decide), zst_o (by decide)])
  · rw [zst_o (by decide), zst_o (by decide), zst_o (by decide)]; exact zst_if.trans (by rw [zst_o (by decide), zst_o (by decide), zst_o (by decide), zst_o (by decide), zst_o (by decide)])
  · rw [zst_o (by decide), zst_o (by decide)]; exact zst_if.trans (by rw [zst_o (by decide), zst_o (by decide), zst_o (by decide), zst_o (by decide), zst_o (by decide), zst_o (by decide)])
theorem zcC_t {σ : zt_St} {v t : Nat} {F : Nat → Int32} : ∀ j, zcC σ v F t 89 j = if j = v then nI t else σ 89 j := by
  intro j
  unfold zcC
  rw [zst_o (by decide)]
  exact zst_if.trans (by rw [zst_o (by decide), zst_o (by decide), zst_o (by decide), zst_o (by decide), zst_o (by decide), zst_o (by decide), zst_o (by decide)])
theorem zcC_o {σ : zt_St} {v t a : Nat} {F : Nat → Int32} (h : a < 81 ∨ 89 < a) : zcC σ v F t a = σ a := by
  unfold zcC
  rw [zst_o (by omega), zst_o (by omega), zst_o (by omega), zst_o (by omega), zst_o (by omega), zst_o (by omega), zst_o (by omega), zst_o (by omega), zst_o (by omega)]
theorem zcC_8 {σ : zt_St} {v t : Nat} {F : Nat → Int32} : zcC σ v F t 81 8 = σ 81 8 ∧ zcC σ v F t 81 9 = nI (t + 1) := by
  unfold zcC
  refine ⟨?_, zst_s⟩
  rw [zst_j (by decide), zst_o (by decide), zst_o (by decide), zst_o (by decide), zst_o (by decide), zst_o (by decide), zst_o (by decide), zst_o (by decide), zst_o (by decide)]
theorem zs_rtk {n : Nat} {σ : zt_St} {a b c : Int32} : f_X2_rowToKeepIn_55 (n + 1) σ a b c = f_X2_rowToKeepIn_55b (f_X2_rowToKeepIn_55 n) σ a b c := rfl
theorem z2rtL {σ : zt_St} (h8 : σ 81 8 = nI 40) : ∀ d i b m, i + d = 40 → b < 40 → (∀ j, j < i → σ 89 b ≤ σ 89 j) → ∃ b', b' < 40 ∧ f_X2_rowToKeepIn_55 (m + d + 1) σ (nI b) (σ 89 b) (nI i) = some (nI b', σ) ∧ ∀ j, j < 40 → σ 89 b' ≤ σ 89 j := by
  intro d
  induction d with
  | zero =>
    intro i b m h hb hj
    rw [zs_rtk]
    unfold f_X2_rowToKeepIn_55b
    rw [h8, if_pos (nI_le (by omega) (by omega))]
    exact ⟨b, hb, rfl, fun j q => hj j (by omega)⟩
  | succ d ih =>
    intro i b m h hb hj
    rw [show m + (d + 1) + 1 = (m + d + 1) + 1 from rfl, zs_rtk]
    unfold f_X2_rowToKeepIn_55b f_X2_rowToKeepIn_99
    rw [h8, if_neg (nI_ge (by omega) (by omega)), zl_40, if_neg (nI_ge (by omega) (by omega)), zgd_i (by omega) (by decide), zgd_i (by omega) (by decide), nI_clamp (by omega), nI_1]
    by_cases c1 : σ 89 b ≤ σ 89 i
    · rw [if_pos c1]
      exact ih (i + 1) b m (by omega) hb (fun j q => by
        by_cases z : j = i
        · rw [z]; exact c1
        · exact hj j (by omega))
    · rw [if_neg c1]
      have c2 : σ 89 i ≤ σ 89 b := (Int32.le_total _ _).resolve_left c1
      exact ih (i + 1) i m (by omega) (by omega) (fun j q => by
        by_cases z : j = i
        · rw [z]; exact Int32.le_refl _
        · exact Int32.le_trans c2 (hj j (by omega)))
/-- the first row is always taken: its turn is smaller than the next one -/
theorem z2rt0 {σ : zt_St} (h8 : σ 81 8 = nI 40) (h0 : ¬ σ 81 9 ≤ σ 89 0) : ∃ b', b' < 40 ∧ f_X2_rowToKeepIn_55 zt_FU σ (-1) (σ 81 9) (nI 0) = some (nI b', σ) ∧ ∀ j, j < 40 → σ 89 b' ≤ σ 89 j := by
  obtain ⟨b, b1, b2, b3⟩ := @z2rtL σ h8 39 1 0 4959 (by omega) (by omega) (fun j q => by rw [show j = 0 by omega]; exact Int32.le_refl _)
  refine ⟨b, b1, ?_, b3⟩
  show f_X2_rowToKeepIn_55 (4999 + 1) σ (-1) (σ 81 9) (nI 0) = _
  rw [zs_rtk]
  unfold f_X2_rowToKeepIn_55b f_X2_rowToKeepIn_99
  rw [h8, if_neg (nI_ge (by omega) (by omega)), zl_40, if_neg (nI_ge (by omega) (by omega)), zgd_i (by omega) (by decide), zgd_i (by omega) (by decide), nI_clamp (by omega), if_neg h0, nI_1]
  exact b2
theorem z2kw {σ τ : zt_St} {v c t : Nat} {F : Nat → Int32} (hv : v < c) (hc : c ≤ 40) (h8 : σ 81 8 = nI c) (h9 : σ 81 9 = nI t) (f2 : σ 91 0 = F 2) (f3 : σ 91 1 = F 3) (f4 : σ 91 2 = F 4) (f5 : σ 91 3 = F 5) (he : f_X2_rowToKeepIn τ (F 0) (F 1) = some (nI v, σ)) : f_X2_keepAnswer τ (F 0) (F 1) 91 (F 6) = some (zcC σ v F t) := by
  unfold f_X2_keepAnswer f_X2_isRow
  rw [he, zbd_s]
  simp only [zlt_e]
  rw [if_neg (nI_pos (by omega)), h8, if_neg (nI_ge (by omega) (by omega)), zl_40, if_neg (nI_ge (by omega) (by omega)), zbd_s, if_neg (show ¬ (1 : Int32) = 0 by decide)]
  simp only [zgd_i (show v < 40 by omega) (show 40 < 2 ^ 31 by decide), nI_clamp (show v < 2 ^ 31 by omega), zst_o (show 91 ≠ 82 by decide), zst_o (show 91 ≠ 83 by decide), zst_o (show 91 ≠ 84 by decide), zst_o (show 91 ≠ 85 by decide), zst_o (show 91 ≠ 86 by decide), zst_o (show 91 ≠ 87 by decide), zst_o (show 81 ≠ 82 by decide), zst_o (show 81 ≠ 83 by decide), zst_o (show 81 ≠ 84 by decide), zst_o (show 81 ≠ 85 by decide), zst_o (show 81 ≠ 86 by decide), zst_o (show 81 ≠ 87 by decide), zst_o (show 81 ≠ 88 by decide), zst_o (show 81 ≠ 89 by decide), f2, f3, f4, f5, h9, nI_1]
  rfl
def zrko (σ : zt_St) (c : Nat) (b : Option Nat) : Option (Int32 × zt_St) := match b with | some j => some (nI j, σ) | none => if c < 40 then some (nI c, zt_st σ 81 8 (nI (c + 1))) else f_X2_rowToKeepIn_55 zt_FU σ (-1) (σ 81 9) (nI 0)
theorem z2rtk {σ : zt_St} {c : Nat} {x y : Int32} {b : Option Nat} (hc : σ 81 8 = nI c) (h40 : c ≤ 40) (hf : zfi (zkq (σ 82) (σ 83) x y) c 0 = b) (hb : ∀ j, b = some j → j < 40) : f_X2_rowToKeepIn σ x y = zrko σ c b := by
  unfold f_X2_rowToKeepIn
  rw [z2ro hc h40, hf, zbd_s]
  cases b with
  | some j =>
    have := hb j rfl
    rw [if_neg (oI_1 (by omega))]
    exact congrArg (fun w => some (nI w, σ)) (Nat.zero_add j)
  | none =>
    rw [if_pos (show oI 0 none = -1 from rfl), hc, zl_40]
    by_cases c1 : c < 40
    · rw [if_neg (nI_ge c1 (by omega)), zlt_e, nI_1]
      show some (zt_st σ 81 8 (nI (c + 1)) 81 8 - 1, zt_st σ 81 8 (nI (c + 1))) = if c < 40 then _ else _
      rw [zst_s, nI_pred, if_pos c1]
    · rw [if_pos (nI_le (by omega) (by omega))]
      show _ = if c < 40 then _ else _
      rw [if_neg c1]
      rfl
/-- the class keeps an answer: the row that it writes -/
theorem z2keep {σ τ : zt_St} {w ρ : Nat → Nat} {c now t : Nat} {F : Nat → Int32} (h : zKd σ τ w ρ c now t) (ht : t < 2 ^ 31) (h40 : c ≤ 40) (h8 : σ 81 8 = nI c) (h9 : σ 81 9 = nI t) (f2 : σ 91 0 = F 2) (f3 : σ 91 1 = F 3) (f4 : σ 91 2 = F 4) (f5 : σ 91 3 = F 5) : (∃ r0, r0 < c ∧ τ 114 r0 = F 0 ∧ τ 115 r0 = F 1 ∧ zfi (zkq (τ 114) (τ 115) (F 0) (F 1)) c 0 = some r0 ∧ f_X2_keepAnswer σ (F 0) (F 1) 91 (F 6) = some (zcC σ (ρ r0) F t)) ∨ (zfi (zkq (τ 114) (τ 115) (F 0) (F 1)) c 0 = none ∧ (∀ r, r < c → ¬ (τ 114 r = F 0 ∧ τ 115 r = F 1)) ∧ ((c < 40 ∧ f_X2_keepAnswer σ (F 0) (F 1) 91 (F 6) = some (zcC (zt_st σ 81 8 (nI (c + 1))) c F t)) ∨ (c = 40 ∧ f_X2_keepAnswer σ (F 0) (F 1) 91 (F 6) = some (zcC σ (ρ 0) F t)))) := by
  have h1 := h.1
  rcases @zKfi σ τ w ρ c now t (F 0) (F 1) h with ⟨a1, a2, a3⟩ | ⟨r0, hr0, a1, a2, a3, a4⟩
  · refine Or.inr ⟨a1, a3, ?_⟩
    have e := z2rtk h8 h40 a2 (fun j q => by cases q)
    by_cases c1 : c < 40
    · refine Or.inl ⟨c1, z2kw (c := c + 1) (by omega) (by omega) zst_s ((zst_j (by decide)).trans h9) ?_ ?_ ?_ ?_ (e.trans (if_pos c1))⟩
      · rw [zst_o (by decide)]; exact f2
      · rw [zst_o (by decide)]; exact f3
      · rw [zst_o (by decide)]; exact f4
      · rw [zst_o (by decide)]; exact f5
    · refine Or.inr ⟨by omega, ?_⟩
      have n0 : ¬ σ 81 9 ≤ σ 89 0 := by
        obtain ⟨r, hr, e2⟩ := h.2.1 0 (by omega)
        have q := (h1 r hr).2.2.1
        have q2 := (h1 r hr).2.2.2.1
        rw [e2] at q
        rw [h9, q]
        exact nI_ge q2 ht
      obtain ⟨b, b1, b2, b3⟩ := z2rt0 (h8.trans (congrArg nI (show c = 40 by omega))) n0
      have b0 : b = ρ 0 := by
        obtain ⟨r, hr, e2⟩ := h.2.1 b (by omega)
        by_cases z : r = 0
        · rw [← e2, z]
        · have w1 := h.2.2.1 0 r (by omega) hr
          have w2 := b3 (ρ 0) (by have := (h1 0 (by omega)).1; omega)
          rw [← e2, (h1 r hr).2.2.1, (h1 0 (by omega)).2.2.1] at w2
          have w3 := (h1 r hr).2.2.2.1
          exact absurd w2 (nI_ge w1 (by omega))
      rw [b0] at b2 b1
      exact z2kw (c := c) (by omega) h40 h8 h9 f2 f3 f4 f5 ((e.trans (if_neg c1)).trans b2)
  · have q := (h1 r0 hr0).1
    refine Or.inl ⟨r0, hr0, a3, a4, a1, z2kw q h40 h8 h9 f2 f3 f4 f5 (z2rtk h8 h40 a2 (fun j z => by cases z; omega))⟩
