/-! what is kept is forgotten, in both -/
theorem zct_cp (q : Nat → Bool) : ∀ d i, zct q d i = (List.range' i d).countP q := by
  intro d
  induction d with
  | zero => intro i; rfl
  | succ d ih =>
    intro i
    rw [zct_s, ih, List.range'_succ, List.countP_cons]
    omega
theorem zct_pm {q : Nat → Bool} {ρ : Nat → Nat} {c : Nat} (h1 : ∀ r, r < c → ρ r < c) (h2 : ∀ j, j < c → ∃ r, r < c ∧ ρ r = j) (h3 : ∀ r r', r < c → r' < c → ρ r = ρ r' → r = r') : zct (fun r => q (ρ r)) c 0 = zct q c 0 := by
  rw [zct_cp, zct_cp]
  have e : (List.range' 0 c).countP (fun r => q (ρ r)) = ((List.range' 0 c).map ρ).countP q := (List.countP_map).symm
  rw [e]
  apply List.Perm.countP_eq
  have hm : ∀ a, a ∈ List.range' 0 c ↔ a < c := fun a => by
    rw [List.mem_range'_1]
    omega
  rw [List.perm_ext_iff_of_nodup]
  · intro a
    rw [List.mem_map, hm]
    constructor
    · rintro ⟨r, hr, e⟩
      rw [← e]
      exact h1 r ((hm r).mp hr)
    · intro ha
      obtain ⟨r, hr, e⟩ := h2 a ha
      exact ⟨r, (hm r).mpr hr, e⟩
  · show List.Pairwise _ _
    rw [List.pairwise_map]
    refine List.Pairwise.imp_of_mem ?_ (List.nodup_range' (s := 0) (n := c))
    intro a b ha hb hne e
    exact hne (h3 a b ((hm a).mp ha) ((hm b).mp hb) e)
  · exact List.nodup_range'
theorem zct_cg {q p : Nat → Bool} : ∀ d i, (∀ j, i ≤ j → j < i + d → q j = p j) → zct q d i = zct p d i := by
  intro d
  induction d with
  | zero => intro i h; rfl
  | succ d ih =>
    intro i h
    rw [zct_s, zct_s, h i (by omega) (by omega), ih (i + 1) (fun j a b => h j (by omega) (by omega))]
/-- the zones' ends, all gone -/
def zz6 (f : Nat → Int32) : Nat → Int32 := fun b => if b < 6 then 0 else f b
theorem zs_c37 {n : Nat} {σ : zt_St} {a b : Int32} : f_X2_clear_37 (n + 1) σ a b = f_X2_clear_37b (f_X2_clear_37 n) σ a b := rfl
theorem zs_f58 {n : Nat} {σ : zt_St} {a b : Int32} : f_X9_forget_58 (n + 1) σ a b = f_X9_forget_58b (f_X9_forget_58 n) σ a b := rfl
theorem z2c37 {x : Int32} : ∀ d i (σ : zt_St) m, i + d = 6 → ∃ σ', f_X2_clear_37 (m + d + 1) σ x (nI i) = some (x, σ') ∧ (∀ a, a ≠ 90 → σ' a = σ a) ∧ ∀ b, σ' 90 b = if i ≤ b ∧ b < 6 then 0 else σ 90 b := by
  intro d
  induction d with
  | zero =>
    intro i σ m h
    rw [zs_c37]
    unfold f_X2_clear_37b
    rw [zl_6, if_pos (nI_le (by omega) (by omega))]
    exact ⟨σ, rfl, fun _ _ => rfl, fun b => (if_neg (by omega)).symm⟩
  | succ d ih =>
    intro i σ m h
    obtain ⟨σ', w1, w2, w3⟩ := ih (i + 1) (zt_st σ 90 i 0) m (by omega)
    rw [show m + (d + 1) + 1 = (m + d + 1) + 1 from rfl, zs_c37]
    unfold f_X2_clear_37b
    rw [zl_6, if_neg (nI_ge (by omega) (by omega)), zgd_i (by omega) (by decide), nI_clamp (by omega), nI_1, zlt_e]
    refine ⟨σ', w1, fun a ha => (w2 a ha).trans (zst_o ha), fun b => ?_⟩
    rw [w3 b, zst_if]
    by_cases c1 : b = i
    · rw [if_neg (by omega), if_pos c1, if_pos (by omega)]
    · by_cases c2 : i + 1 ≤ b ∧ b < 6
      · rw [if_pos c2, if_pos (by omega)]
      · rw [if_neg c2, if_neg c1, if_neg (by omega)]
theorem z9f58 {x : Int32} : ∀ d i (σ : zt_St) m, i + d = 6 → ∃ σ', f_X9_forget_58 (m + d + 1) σ x (nI i) = some (x, σ') ∧ (∀ a, a ≠ 113 → σ' a = σ a) ∧ ∀ b, σ' 113 b = if i ≤ b ∧ b < 6 then 0 else σ 113 b := by
  intro d
  induction d with
  | zero =>
    intro i σ m h
    rw [zs_f58]
    unfold f_X9_forget_58b
    rw [zl_6, if_pos (nI_le (by omega) (by omega))]
    exact ⟨σ, rfl, fun _ _ => rfl, fun b => (if_neg (by omega)).symm⟩
  | succ d ih =>
    intro i σ m h
    obtain ⟨σ', w1, w2, w3⟩ := ih (i + 1) (zt_st σ 113 i 0) m (by omega)
    rw [show m + (d + 1) + 1 = (m + d + 1) + 1 from rfl, zs_f58]
    unfold f_X9_forget_58b
    rw [zl_6, if_neg (nI_ge (by omega) (by omega)), zgd_i (by omega) (by decide), nI_clamp (by omega), nI_1, zlt_e]
    refine ⟨σ', w1, fun a ha => (w2 a ha).trans (zst_o ha), fun b => ?_⟩
    rw [w3 b, zst_if]
    by_cases c1 : b = i
    · rw [if_neg (by omega), if_pos c1, if_pos (by omega)]
    · by_cases c2 : i + 1 ≤ b ∧ b < 6
      · rw [if_pos c2, if_pos (by omega)]
      · rw [if_neg c2, if_neg c1, if_neg (by omega)]
def zhC (σ : zt_St) (x : Int32) (j : Nat) : Bool := !(decide (σ 88 j + σ 87 j ≤ x))
def zhM (τ : zt_St) (j : Nat) : Bool := !(decide (τ 120 j + τ 119 j ≤ τ 94 1))
theorem zs_c4 {n : Nat} {σ : zt_St} {a b d : Int32} : f_X2_clear_4 (n + 1) σ a b d = f_X2_clear_4b (f_X2_clear_4 n) σ a b d := rfl
theorem z2isr {σ : zt_St} {c j : Nat} (hc : σ 81 8 = nI c) (h40 : c ≤ 40) (hj : j < c) : f_X2_isRow σ (nI j) = some (nI 1) := by
  unfold f_X2_isRow
  rw [if_neg (nI_pos (by omega)), hc, if_neg (nI_ge (by omega) (by omega)), zl_40, if_neg (nI_ge (by omega) (by omega))]
  rfl
theorem z2isN {σ : zt_St} : f_X2_isRow σ (-1) = some (nI 0) := rfl
theorem z2hol {σ : zt_St} {c j : Nat} {x : Int32} (hc : σ 81 8 = nI c) (h40 : c ≤ 40) (hj : j < c) : f_X2_isHolding σ (nI j) x = some (zb (zhC σ x j)) := by
  unfold f_X2_isHolding zhC
  rw [z2isr hc h40 hj, zbd_s, if_neg (show ¬ nI 1 = 0 by decide), zgd_i (by omega) (by decide), zgd_i (by omega) (by decide), nI_clamp (by omega)]
  by_cases c1 : σ 88 j + σ 87 j ≤ x
  · rw [if_pos c1, decide_eq_true c1]; rfl
  · rw [if_neg c1, decide_eq_false c1]; rfl
theorem z2clL {σ : zt_St} {c : Nat} {x : Int32} (hc : σ 81 8 = nI c) (h40 : c ≤ 40) : ∀ d i k m, i + d = c → ∃ σ', f_X2_clear_4 (m + d + 1) σ x (nI k) (nI i) = some (nI (k + zct (zhC σ x) d i), σ') ∧ σ' 81 8 = nI 0 ∧ (∀ a, a ≠ 81 → a ≠ 90 → σ' a = σ a) ∧ (∀ j, j ≠ 8 → σ' 81 j = σ 81 j) ∧ σ' 90 = zz6 (σ 90) := by
  intro d
  induction d with
  | zero =>
    intro i k m h
    rw [zs_c4]
    unfold f_X2_clear_4b
    rw [hc, if_pos (nI_le (by omega) (by omega)), zlt_e]
    obtain ⟨σ', w1, w2, w3⟩ := @z2c37 (nI k) 6 0 (zt_st σ 81 8 0) (4999 - 6) (by omega)
    refine ⟨σ', w1, ?_, fun a h1 h2 => (w2 a h2).trans (zst_o h1), fun j hj => ?_, ?_⟩
    · rw [w2 81 (by decide)]; exact zst_s
    · rw [w2 81 (by decide)]; exact zst_j hj
    · funext b
      rw [w3 b, zst_o (by decide)]
      unfold zz6
      by_cases c1 : b < 6
      · rw [if_pos ⟨Nat.zero_le _, c1⟩, if_pos c1]
      · rw [if_neg (fun z => c1 z.2), if_neg c1]
  | succ d ih =>
    intro i k m h
    rw [show m + (d + 1) + 1 = (m + d + 1) + 1 from rfl, zs_c4]
    unfold f_X2_clear_4b f_X2_clear_24
    rw [hc, if_neg (nI_ge (by omega) (by omega)), z2hol hc h40 (by omega), zbd_s, nI_1, nI_1, zct_s]
    cases zhC σ x i with
    | false =>
      rw [if_pos (show zb false = 0 from rfl), if_neg (show ¬ false = true by decide), Nat.zero_add]
      exact ih (i + 1) k m (by omega)
    | true =>
      rw [if_neg (show ¬ zb true = 0 by decide), if_pos rfl, ← Nat.add_assoc]
      exact ih (i + 1) (k + 1) m (by omega)
theorem z2cl {σ : zt_St} {c : Nat} {x : Int32} (hc : σ 81 8 = nI c) (h40 : c ≤ 40) : ∃ σ', f_X2_clear σ x = some (nI (zct (zhC σ x) c 0), σ') ∧ σ' 81 8 = nI 0 ∧ (∀ a, a ≠ 81 → a ≠ 90 → σ' a = σ a) ∧ (∀ j, j ≠ 8 → σ' 81 j = σ 81 j) ∧ σ' 90 = zz6 (σ 90) := by
  unfold f_X2_clear
  obtain ⟨σ', w⟩ := @z2clL σ c x hc h40 c 0 0 (4999 - c) (by omega)
  rw [Nat.zero_add, ← zfu c (by omega)] at w
  exact ⟨σ', w⟩
theorem zs_f9 {n : Nat} {σ : zt_St} {a b : Int32} : f_X9_forget_9 (n + 1) σ a b = f_X9_forget_9b (f_X9_forget_9 n) σ a b := rfl
theorem z9foL {τ : zt_St} {c : Nat} (hc : τ 94 24 = nI c) (h40 : c ≤ 40) : ∀ d i k m, i + d = c → ∃ τ', f_X9_forget_9 (m + d + 1) τ (nI k) (nI i) = some (nI (k + zct (zhM τ) d i), τ') ∧ τ' 94 24 = nI 0 ∧ (∀ a, a ≠ 94 → a ≠ 113 → τ' a = τ a) ∧ (∀ j, j ≠ 24 → τ' 94 j = τ 94 j) ∧ τ' 113 = zz6 (τ 113) := by
  intro d
  induction d with
  | zero =>
    intro i k m h
    rw [zs_f9]
    unfold f_X9_forget_9b
    rw [hc, if_pos (nI_le (by omega) (by omega)), zlt_e]
    obtain ⟨σ', w1, w2, w3⟩ := @z9f58 (nI k) 6 0 (zt_st τ 94 24 0) (4999 - 6) (by omega)
    refine ⟨σ', w1, ?_, fun a h1 h2 => (w2 a h2).trans (zst_o h1), fun j hj => ?_, ?_⟩
    · rw [w2 94 (by decide)]; exact zst_s
    · rw [w2 94 (by decide)]; exact zst_j hj
    · funext b
      rw [w3 b, zst_o (by decide)]
      unfold zz6
      by_cases c1 : b < 6
      · rw [if_pos ⟨Nat.zero_le _, c1⟩, if_pos c1]
      · rw [if_neg (fun z => c1 z.2), if_neg c1]
  | succ d ih =>
    intro i k m h
    have c1 : zhM τ i = !(decide (τ 120 i + τ 119 i ≤ τ 94 1)) := rfl
    rw [show m + (d + 1) + 1 = (m + d + 1) + 1 from rfl, zs_f9]
    unfold f_X9_forget_9b f_X9_forget_43
    rw [hc, if_neg (nI_ge (by omega) (by omega)), zgd_i (by omega) (by decide), zgd_i (by omega) (by decide), nI_clamp (by omega), nI_1, nI_1, zl_0, nI_add, zct_s]
    by_cases q : τ 120 i + τ 119 i ≤ τ 94 1
    · rw [decide_eq_true q] at c1
      rw [if_pos q, c1, if_neg (show ¬ (!true) = true by decide), Nat.zero_add]
      exact ih (i + 1) k m (by omega)
    · rw [decide_eq_false q] at c1
      rw [if_neg q, c1, if_pos (show (!false) = true from rfl), ← Nat.add_assoc]
      exact ih (i + 1) (k + 1) m (by omega)
theorem zForget {σ τ : zt_St} {c now t : Nat} (h : zIK σ τ c now t) (ht : t < 2 ^ 31) (n3 : σ 80 3 = nI now) (n1 : τ 94 1 = nI now) (hu : σ 90 = τ 113) :
    ∃ v σ' τ', f_X2_clear σ (σ 80 3) = some (v, σ') ∧ f_X9_forget τ = some (v, τ') ∧ zIK σ' τ' 0 now t ∧ σ' 90 = τ' 113 ∧ (∀ a, a ≠ 81 → a ≠ 90 → σ' a = σ a) ∧ (∀ a, a ≠ 94 → a ≠ 113 → τ' a = τ a) ∧ (∀ j, j ≠ 0 → j ≠ 24 → τ' 94 j = τ 94 j) ∧ τ' 94 0 = 0 := by
  obtain ⟨h8, h24, h40, h9, w, ρ, hK⟩ := h
  obtain ⟨σ', a1, a2, a3, a4, a5⟩ := @z2cl σ c (σ 80 3) h8 h40
  obtain ⟨τ', b1, b2, b3, b4, b5⟩ := @z9foL (zt_st τ 94 0 0) c ((zst_j (by decide)).trans h24) h40 c 0 0 (4999 - c) (by omega)
  have e : zct (zhM (zt_st τ 94 0 0)) c 0 = zct (zhC σ (σ 80 3)) c 0 := by
    rw [← zct_pm (q := zhC σ (σ 80 3)) (fun r hr => (hK.1 r hr).1) hK.2.1 (zKinj hK ht)]
    refine zct_cg c 0 (fun j _ hj => ?_)
    have e5 : σ 87 (ρ j) = τ 119 j := (hK.1 j (by omega)).2.1 5 (by decide)
    have e6 : σ 88 (ρ j) = τ 120 j := (hK.1 j (by omega)).2.1 6 (by decide)
    show zhM (zt_st τ 94 0 0) j = zhC σ (σ 80 3) (ρ j)
    unfold zhM zhC
    rw [zst_o (by decide), zst_o (by decide), zst_j (by decide), e5, e6, n3, n1]
  rw [Nat.zero_add, ← zfu c (by omega), e] at b1
  refine ⟨_, σ', τ', a1, b1, ⟨a2, b2, by omega, (a4 9 (by decide)).trans h9, w, ρ, fun r hr => absurd hr (by omega), fun j hj => absurd hj (by omega), fun r r' _ hr => absurd hr (by omega), fun r r' hr => absurd hr (by omega)⟩, ?_, a3, fun a h1 h2 => (b3 a h1 h2).trans (zst_o h1), fun j h1 h2 => (b4 j h2).trans (zst_j h1), (b4 0 (by decide)).trans zst_s⟩
  rw [a5, b5, hu, zst_o (by decide)]
