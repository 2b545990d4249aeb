/-! the reference's sets; what is told for an update, and what it does to a set, in both -/
theorem zRM_w {σ : zt_St} {s o k : Nat} {R : zR} {a b c d : Int32} (hR : zRM σ s R) (h : s ≠ o) (hk : k < 32) (hn : R.1 ≤ 32) : zRM (zc4 σ 103 (32 * o + k) a b c d) s R := by
  refine ⟨?_, fun i hi => ?_⟩
  · rw [zc4_o (by omega)]; exact hR.1
  · have c1 : 32 * s + i ≠ 32 * o + k := by omega
    have e1 : zc4 σ 103 (32 * o + k) a b c d 104 (32 * s + i) = σ 104 (32 * s + i) := by rw [show (104 : Nat) = 103 + 1 from rfl, zc4_1, if_neg c1]
    have e2 : zc4 σ 103 (32 * o + k) a b c d 105 (32 * s + i) = σ 105 (32 * s + i) := by rw [show (105 : Nat) = 103 + 2 from rfl, zc4_2, if_neg c1]
    have e3 : zc4 σ 103 (32 * o + k) a b c d 106 (32 * s + i) = σ 106 (32 * s + i) := by rw [show (106 : Nat) = 103 + 3 from rfl, zc4_3, if_neg c1]
    have e4 : zc4 σ 103 (32 * o + k) a b c d 107 (32 * s + i) = σ 107 (32 * s + i) := by rw [show (107 : Nat) = 103 + 4 from rfl, zc4_4, if_neg c1]
    rw [e1, e2, e3, e4]
    exact hR.2 i hi
theorem zRM_v {σ : zt_St} {s i r : Nat} {a b c d : Int32} : zc4 σ 103 r a b c d 104 (32 * s + i) = (if 32 * s + i = r then a else σ 104 (32 * s + i)) ∧ zc4 σ 103 r a b c d 105 (32 * s + i) = (if 32 * s + i = r then b else σ 105 (32 * s + i)) ∧ zc4 σ 103 r a b c d 106 (32 * s + i) = (if 32 * s + i = r then c else σ 106 (32 * s + i)) ∧ zc4 σ 103 r a b c d 107 (32 * s + i) = (if 32 * s + i = r then d else σ 107 (32 * s + i)) :=
  ⟨zc4_1 (k := 103), zc4_2 (k := 103), zc4_3 (k := 103), zc4_4 (k := 103)⟩
theorem zRM_c {σ : zt_St} {s o : Nat} {x : Int32} {R : zR} (hR : zRM σ s R) (h : s ≠ o) : zRM (zt_st σ 103 o x) s R := by
  refine ⟨?_, fun i hi => ?_⟩
  · rw [zst_j h]; exact hR.1
  · rw [zst_o (show (104 : Nat) ≠ 103 by decide), zst_o (show (105 : Nat) ≠ 103 by decide), zst_o (show (106 : Nat) ≠ 103 by decide), zst_o (show (107 : Nat) ≠ 103 by decide)]
    exact hR.2 i hi
theorem z9lay {σ : zt_St} {s k : Nat} {a b c d : Int32} (h : 32 * s + k < 416) : f_X9_lays σ (nI s) (nI k) a b c d = some (zc4 σ 103 (32 * s + k) a b c d) := by
  unfold f_X9_lays
  rw [zl_32, pk_mul, nI_add, zgd_i h (by decide), nI_clamp (by omega), zlt_e, zgd_i h (by decide), zlt_e, zgd_i h (by decide), zlt_e, zgd_i h (by decide), zlt_e]
  rfl
def zFM (o : Nat) (σ σ' : zt_St) : Prop := (∀ e, e < 103 ∨ 107 < e → σ' e = σ e) ∧ ∀ t R, t ≠ o → R.1 ≤ 32 → zRM σ t R → zRM σ' t R
theorem zFM_r {o : Nat} {σ : zt_St} : zFM o σ σ := ⟨fun _ _ => rfl, fun _ _ _ _ h => h⟩
theorem zFM_t {o : Nat} {σ σ1 σ2 : zt_St} (h : zFM o σ σ1) (h2 : zFM o σ1 σ2) : zFM o σ σ2 := ⟨fun e he => (h2.1 e he).trans (h.1 e he), fun t R a b c => h2.2 t R a b (h.2 t R a b c)⟩
theorem zFM_w {σ : zt_St} {o k : Nat} {a b c d : Int32} (hk : k < 32) : zFM o σ (zc4 σ 103 (32 * o + k) a b c d) := ⟨fun e he => zc4_o (by omega), fun t R h1 h2 h3 => zRM_w h3 h1 hk h2⟩
theorem zFM_c {σ : zt_St} {o : Nat} {x : Int32} : zFM o σ (zt_st σ 103 o x) := ⟨fun e he => zst_o (by omega), fun t R h1 _ h3 => zRM_c h3 h1⟩
theorem zs_cpy {n : Nat} {σ : zt_St} {a b c : Int32} : f_X9_copies_14 (n + 1) σ a b c = f_X9_copies_14b (f_X9_copies_14 n) σ a b c := rfl
theorem z9cpL {s o : Nat} {R : zR} (hs : s < 13) (ho : o < 13) (hd : s ≠ o) (h30 : R.1 ≤ 30) : ∀ d i (σ : zt_St) m, i + d = R.1 → zRM σ s R → σ 103 o = nI R.1 → (∀ j, j < i → σ 104 (32 * o + j) = nI (zP R j) ∧ σ 105 (32 * o + j) = nI (zS R j) ∧ σ 106 (32 * o + j) = nI (zV R j) ∧ σ 107 (32 * o + j) = nI (zL R j)) → ∃ σ', f_X9_copies_14 (m + d + 1) σ (nI s) (nI o) (nI i) = some σ' ∧ zRM σ' o R ∧ zFM o σ σ' := by
  intro d
  induction d with
  | zero =>
    intro i σ m h h1 h4 hj
    rw [zs_cpy]
    unfold f_X9_copies_14b
    rw [zgd_i (by omega) (by omega), nI_clamp (by omega), h1.1, if_pos (nI_le (by omega) (by omega))]
    exact ⟨σ, rfl, ⟨h4, fun j w => hj j (by omega)⟩, zFM_r⟩
  | succ d ih =>
    intro i σ m h h1 h4 hj
    have q := h1.2 i (by omega)
    rw [show m + (d + 1) + 1 = (m + d + 1) + 1 from rfl, zs_cpy]
    unfold f_X9_copies_14b
    rw [zgd_i (show s < 13 by omega) (by omega), nI_clamp (show s < 2 ^ 31 by omega), h1.1, if_neg (nI_ge (by omega) (by omega)), zl_32, pk_mul, nI_add, zgd_i (by omega) (by omega), zgd_i (by omega) (by omega), zgd_i (by omega) (by omega), zgd_i (by omega) (by omega), nI_clamp (by omega), q.1, q.2.1, q.2.2.1, q.2.2.2, z9lay (by omega), zbd_s, nI_1]
    obtain ⟨σ', w1, w2, w3⟩ := ih (i + 1) (zc4 σ 103 (32 * o + i) (nI (zP R i)) (nI (zS R i)) (nI (zV R i)) (nI (zL R i))) m (by omega) (zRM_w h1 hd (by omega) (by omega)) (by rw [zc4_o (by omega)]; exact h4) (fun j hj' => by
      have v := @zRM_v σ o j (32 * o + i) (nI (zP R i)) (nI (zS R i)) (nI (zV R i)) (nI (zL R i))
      rw [v.1, v.2.1, v.2.2.1, v.2.2.2]
      by_cases c : j = i
      · subst c
        simp only [if_true]
        exact ⟨trivial, trivial, trivial, trivial⟩
      · simp only [if_neg (show ¬ 32 * o + j = 32 * o + i by omega)]
        exact hj j (by omega))
    exact ⟨σ', w1, w2, zFM_t (zFM_w (by omega)) w3⟩
theorem z9cp {σ : zt_St} {s o : Nat} {R : zR} (hs : s < 13) (ho : o < 13) (hd : s ≠ o) (h30 : R.1 ≤ 30) (h1 : zRM σ s R) : ∃ σ', f_X9_copies σ (nI s) (nI o) = some σ' ∧ zRM σ' o R ∧ zFM o σ σ' := by
  unfold f_X9_copies
  rw [zgd_i (by omega) (by omega), zgd_i (by omega) (by omega), nI_clamp (by omega), nI_clamp (by omega), h1.1, zlt_e, zfu R.1 (by omega), zl_0]
  obtain ⟨σ', w1, w2, w3⟩ := z9cpL hs ho hd h30 R.1 0 (zt_st σ 103 o (nI R.1)) (4999 - R.1) (by omega) (zRM_c h1 hd) zst_s (fun j hj => by omega)
  exact ⟨σ', w1, w2, zFM_t zFM_c w3⟩
abbrev zT : Type := Nat × (Nat → Nat × Nat × Nat × Nat × Nat)
def tK (T : zT) (i : Nat) : Nat := (T.2 i).1
def tP (T : zT) (i : Nat) : Nat := (T.2 i).2.1
def tS (T : zT) (i : Nat) : Nat := (T.2 i).2.2.1
def tV (T : zT) (i : Nat) : Nat := (T.2 i).2.2.2.1
def tL (T : zT) (i : Nat) : Nat := (T.2 i).2.2.2.2
def zTC (σ : zt_St) (T : zT) : Prop := σ 69 5 = nI T.1 ∧ ∀ i, i < T.1 → σ 70 i = nI (tK T i) ∧ σ 71 i = nI (tP T i) ∧ σ 72 i = nI (tS T i) ∧ σ 73 i = nI (tV T i) ∧ σ 74 i = nI (tL T i)
def zTM (σ : zt_St) (T : zT) : Prop := σ 94 17 = nI T.1 ∧ ∀ i, i < T.1 → σ 108 i = nI (tK T i) ∧ σ 109 i = nI (tP T i) ∧ σ 110 i = nI (tS T i) ∧ σ 111 i = nI (tV T i) ∧ σ 112 i = nI (tL T i)
def zTB (T : zT) : Prop := T.1 ≤ 10 ∧ ∀ i, i < T.1 → tK T i ≤ 3
def zrt (R : zR) (T : zT) (i : Nat) : Option Nat := zrw R (nI (tP T i)) (nI (tS T i))
def zmet (R : zR) (T : zT) : Nat → Nat → Bool
  | 0, _ => true
  | d + 1, i => if tK T i = 0 then (zrt R T i).isSome && zmet R T d (i + 1) else if tK T i = 1 then (zrt R T i).isNone && zmet R T d (i + 1) else zmet R T d (i + 1)
def zmd (T : zT) : Nat → Nat → zR → Option zR
  | 0, _, R => some R
  | d + 1, i, R => if tK T i = 2 then zmd T d (i + 1) (zput R (tP T i) (tS T i) (tV T i) (tL T i)) else if tK T i = 3 then (match zrt R T i with | none => none | some j => zmd T d (i + 1) (zrem R j)) else zmd T d (i + 1) R
def zds (Z : zR) (T : zT) : Nat → Nat → zR → Option zR
  | 0, _, R => some R
  | d + 1, i, R => if tK T i = 0 then (match zrt Z T i with | none => none | some _ => zds Z T d (i + 1) R) else if tK T i = 1 then (match zrt Z T i with | none => zds Z T d (i + 1) R | some _ => none) else if tK T i = 2 then zds Z T d (i + 1) (zput R (tP T i) (tS T i) (tV T i) (tL T i)) else (match zrt R T i with | none => none | some j => zds Z T d (i + 1) (zrem R j))
theorem zmet_s {R : zR} {T : zT} {d i : Nat} : zmet R T (d + 1) i = if tK T i = 0 then (zrt R T i).isSome && zmet R T d (i + 1) else if tK T i = 1 then (zrt R T i).isNone && zmet R T d (i + 1) else zmet R T d (i + 1) := rfl
theorem zmd_s {T : zT} {d i : Nat} {R : zR} : zmd T (d + 1) i R = if tK T i = 2 then zmd T d (i + 1) (zput R (tP T i) (tS T i) (tV T i) (tL T i)) else if tK T i = 3 then (match zrt R T i with | none => none | some j => zmd T d (i + 1) (zrem R j)) else zmd T d (i + 1) R := rfl
theorem zds_s {Z : zR} {T : zT} {d i : Nat} {R : zR} : zds Z T (d + 1) i R = if tK T i = 0 then (match zrt Z T i with | none => none | some _ => zds Z T d (i + 1) R) else if tK T i = 1 then (match zrt Z T i with | none => zds Z T d (i + 1) R | some _ => none) else if tK T i = 2 then zds Z T d (i + 1) (zput R (tP T i) (tS T i) (tV T i) (tL T i)) else (match zrt R T i with | none => none | some j => zds Z T d (i + 1) (zrem R j)) := rfl
theorem zds_e {Z : zR} {T : zT} : ∀ d i R, (∀ j, i ≤ j → j < i + d → tK T j ≤ 3) → zds Z T d i R = if zmet Z T d i = true then zmd T d i R else none := by
  intro d
  induction d with
  | zero => intro i R _; rfl
  | succ d ih =>
    intro i R h
    have hi := h i (by omega) (by omega)
    have h' : ∀ j, i + 1 ≤ j → j < i + 1 + d → tK T j ≤ 3 := fun j a b => h j (by omega) (by omega)
    rw [zds_s, zmet_s, zmd_s]
    by_cases c0 : tK T i = 0
    · rw [if_pos c0, if_pos c0, if_neg (show ¬ tK T i = 2 by omega), if_neg (show ¬ tK T i = 3 by omega), ih _ _ h']
      cases zrt Z T i with
      | none => rfl
      | some j => rfl
    · rw [if_neg c0, if_neg c0]
      by_cases c1 : tK T i = 1
      · rw [if_pos c1, if_pos c1, if_neg (show ¬ tK T i = 2 by omega), if_neg (show ¬ tK T i = 3 by omega), ih _ _ h']
        cases zrt Z T i with
        | none => rfl
        | some j => rfl
      · rw [if_neg c1, if_neg c1]
        by_cases c2 : tK T i = 2
        · rw [if_pos c2, if_pos c2, ih _ _ h']
        · rw [if_neg c2, if_neg c2, if_pos (show tK T i = 3 by omega)]
          cases zrt R T i with
          | none => exact (ite_self none).symm
          | some j => exact ih _ _ h'
theorem zput_1 (R : zR) (p s v l : Nat) : (zput R p s v l).1 ≤ R.1 + 1 := by
  unfold zput
  cases zrw R (nI p) (nI s) with
  | none => exact Nat.le_refl _
  | some j => exact Nat.le_succ _
theorem zrem_1 (R : zR) (j : Nat) : (zrem R j).1 ≤ R.1 := Nat.sub_le _ _
theorem oI_1 {o : Nat} {j : Nat} (h : o + j < 2 ^ 31) : ¬ oI o (some j) = -1 := zm1 h
theorem zs_met {k n : Nat} {σ : zt_St} {a : Int32} : f_X1_areMet_2 σ k (n + 1) a = f_X1_areMet_2b σ k (f_X1_areMet_2 σ k n) a := rfl
theorem z3metL {σ : zt_St} {k M : Nat} {R : zR} {T : zT} (hk : zK k M R) (hR : zRC σ k R) (hT : zTC σ T) (hB : zTB T) : ∀ d i m, i + d = T.1 → f_X1_areMet_2 σ k (m + d + 1) (nI i) = some (zb (zmet R T d i)) := by
  intro d
  have hM := hk.2.2.2.2
  induction d with
  | zero =>
    intro i m h
    rw [zs_met]
    unfold f_X1_areMet_2b
    have := hB.1
    rw [hT.1, if_pos (nI_le (by omega) (by omega))]
    rfl
  | succ d ih =>
    intro i m h
    have b1 := hB.1
    have b2 := hB.2 i (by omega)
    have e := hT.2 i (by omega)
    rw [show m + (d + 1) + 1 = (m + d + 1) + 1 from rfl, zs_met]
    unfold f_X1_areMet_2b f_X1_areMet_44 f_X1_areMet_58 f_X1_areMet_74
    rw [hT.1, if_neg (nI_ge (by omega) (by omega)), zl_10, if_neg (nI_ge (by omega) (by omega))]
    simp only [zgd_i (show i < 10 by omega) (show 10 < 2 ^ 31 by omega), nI_clamp (show i < 2 ^ 31 by omega), e.1, e.2.1, e.2.2.1, z3row hk hR, zbd_s, nI_1, ih (i + 1) m (by omega)]
    show (if oI 0 (zrt R T i) = -1 then _ else _) = _
    rw [zmet_s]
    have k0 : nI (tK T i) = 0 ↔ tK T i = 0 := nI_eq (b := 0) (by omega) (by decide)
    have k1 : nI (tK T i) = 1 ↔ tK T i = 1 := nI_eq (b := 1) (by omega) (by decide)
    simp only [k0, k1]
    cases hz : zrt R T i with
    | none =>
      rw [if_pos (show oI 0 none = -1 from rfl)]
      by_cases c0 : tK T i = 0
      · rw [if_pos c0, if_pos c0]; rfl
      · rw [if_neg c0, if_neg c0]
        by_cases c1 : tK T i = 1
        · rw [if_pos c1, if_pos c1, if_pos trivial]; rfl
        · rw [if_neg c1, if_neg c1]
    | some j =>
      have hj := (zrw_lt hz).1
      rw [if_neg (oI_1 (by omega))]
      by_cases c0 : tK T i = 0
      · rw [if_pos c0, if_pos c0, if_neg (show ¬ (1 : Int32) = 0 by decide), if_neg (by omega)]; rfl
      · rw [if_neg c0, if_neg c0]
        by_cases c1 : tK T i = 1
        · rw [if_pos c1, if_pos c1]; rfl
        · rw [if_neg c1, if_neg c1]
theorem z3met {σ : zt_St} {k M : Nat} {R : zR} {T : zT} (hk : zK k M R) (hR : zRC σ k R) (hT : zTC σ T) (hB : zTB T) : f_X1_areMet σ k = some (zb (zmet R T T.1 0)) := by
  have := hB.1
  unfold f_X1_areMet
  rw [zfu T.1 (by omega), zl_0]
  exact z3metL hk hR hT hB T.1 0 _ (by omega)
theorem zTC_f {σ σ' : zt_St} {T : zT} (hT : zTC σ T) (h : ∀ e, 69 ≤ e → e ≤ 74 → σ' e = σ e) : zTC σ' T := by
  unfold zTC at *
  rw [h 69 (by omega) (by omega), h 70 (by omega) (by omega), h 71 (by omega) (by omega), h 72 (by omega) (by omega), h 73 (by omega) (by omega), h 74 (by omega) (by omega)]
  exact hT
theorem zs_mad {n : Nat} {σ : zt_St} {a : Int32} : f_X1_areMade_2 (n + 1) σ a = f_X1_areMade_2b (f_X1_areMade_2 n) σ a := rfl
theorem zK75 {R : zR} (h : R.1 ≤ 30) : zK 75 30 R := ⟨rfl, rfl, rfl, rfl, h, Nat.le_refl _⟩
theorem z3madL {T : zT} (hB : zTB T) : ∀ d i (σ : zt_St) (R : zR) m, i + d = T.1 → zTC σ T → zRC σ 75 R → R.1 + d ≤ 30 → ∃ σ', (match zmd T d i R with | none => f_X1_areMade_2 (m + d + 1) σ (nI i) = some (0, σ') | some R' => f_X1_areMade_2 (m + d + 1) σ (nI i) = some (1, σ') ∧ zRC σ' 75 R' ∧ R'.1 ≤ 30) ∧ ∀ e, e < 75 ∨ 79 < e → σ' e = σ e := by
  intro d
  induction d with
  | zero =>
    intro i σ R m h hT hR hn
    have b1 := hB.1
    refine ⟨σ, ⟨?_, hR, by omega⟩, fun _ _ => rfl⟩
    rw [zs_mad]
    unfold f_X1_areMade_2b
    rw [hT.1, if_pos (nI_le (by omega) (by omega))]
  | succ d ih =>
    intro i σ R m h hT hR hn
    have b1 := hB.1
    have b2 := hB.2 i (by omega)
    have e := hT.2 i (by omega)
    have k2 : nI (tK T i) = 2 ↔ tK T i = 2 := nI_eq (b := 2) (by omega) (by decide)
    have k3 : nI (tK T i) = 3 ↔ tK T i = 3 := nI_eq (b := 3) (by omega) (by decide)
    rw [show m + (d + 1) + 1 = (m + d + 1) + 1 from rfl, zs_mad]
    unfold f_X1_areMade_2b f_X1_areMade_60 f_X1_areMade_94
    rw [zmd_s, hT.1, if_neg (nI_ge (by omega) (by omega)), zl_10, if_neg (nI_ge (by omega) (by omega))]
    simp only [zgd_i (show i < 10 by omega) (show 10 < 2 ^ 31 by omega), nI_clamp (show i < 2 ^ 31 by omega), e.1, e.2.1, e.2.2.1, e.2.2.2.1, e.2.2.2.2, nI_1, k2, k3]
    by_cases c2 : tK T i = 2
    · have hc3 : ¬ tK T i = 3 := by omega
      obtain ⟨σ1, w1, w2, w3⟩ := z3set (p := tP T i) (s := tS T i) (v := tV T i) (l := tL T i) (zK75 (R := R) (by omega)) (by omega) hR
      have hT1 : zTC σ1 T := zTC_f hT (fun e a b => w3 e (by omega))
      have hp := zput_1 R (tP T i) (tS T i) (tV T i) (tL T i)
      obtain ⟨σ2, v1, v2⟩ := ih (i + 1) σ1 _ m (by omega) hT1 w2 (by omega)
      simp only [if_pos c2, w1, zbd_s, (hT1.2 i (by omega)).1, k3, if_neg hc3]
      exact ⟨σ2, v1, fun e he => (v2 e he).trans (w3 e (by omega))⟩
    · simp only [if_neg c2]
      by_cases c3 : tK T i = 3
      · simp only [if_pos c3]
        rcases z3rem (x := nI (tP T i)) (y := nI (tS T i)) (zK75 (R := R) (by omega)) hR with ⟨w0, w1⟩ | ⟨j, σ1, w0, w1, w2, w3⟩
        · have w0 : zrt R T i = none := w0
          simp only [w0, w1, zbd_s, zlt_e, if_true]
          exact ⟨σ, rfl, fun _ _ => rfl⟩
        · have w0 : zrt R T i = some j := w0
          have hT1 : zTC σ1 T := zTC_f hT (fun e a b => w3 e (by omega))
          have hp := zrem_1 R j
          obtain ⟨σ2, v1, v2⟩ := ih (i + 1) σ1 _ m (by omega) hT1 w2 (by omega)
          simp only [w0, w1, zbd_s, zlt_e, if_neg (show ¬ (1 : Int32) = 0 by decide)]
          exact ⟨σ2, v1, fun e he => (v2 e he).trans (w3 e (by omega))⟩
      · simp only [if_neg c3]
        obtain ⟨σ2, v1, v2⟩ := ih (i + 1) σ R m (by omega) hT hR (by omega)
        exact ⟨σ2, v1, v2⟩
