/-! what the reference does for an update to its draft -/
theorem zRM_u {σ : zt_St} {o N j : Nat} {D : zR} {p s v l : Nat} (hR : zRM σ o D) (h : ∀ i, i < N → i ≠ j → i < D.1) : zRM (zt_st (zc4 σ 103 (32 * o + j) (nI p) (nI s) (nI v) (nI l)) 103 o (nI N)) o (N, zup D j (p, s, v, l)) := by
  refine ⟨zst_s, fun i hi => ?_⟩
  have hi : i < N := hi
  rw [zst_o (show (104 : Nat) ≠ 103 by decide), zst_o (show (105 : Nat) ≠ 103 by decide), zst_o (show (106 : Nat) ≠ 103 by decide), zst_o (show (107 : Nat) ≠ 103 by decide)]
  have w := @zRM_v σ o i (32 * o + j) (nI p) (nI s) (nI v) (nI l)
  rw [w.1, w.2.1, w.2.2.1, w.2.2.2]
  unfold zP zS zV zL zup
  by_cases c : i = j
  · simp only [if_pos (show 32 * o + i = 32 * o + j by omega), if_pos c]
    exact ⟨trivial, trivial, trivial, trivial⟩
  · simp only [if_neg (show ¬ 32 * o + i = 32 * o + j by omega), if_neg c]
    exact hR.2 i (h i hi c)
theorem zc12 : (12 : Int32).toNatClampNeg = 12 := rfl
def zd1 (Z : zR) (T : zT) (i : Nat) (R : zR) : Option zR := if tK T i = 0 then (match zrt Z T i with | none => none | some _ => some R) else if tK T i = 1 then (match zrt Z T i with | none => some R | some _ => none) else if tK T i = 2 then some (zput R (tP T i) (tS T i) (tV T i) (tL T i)) else (match zrt R T i with | none => none | some j => some (zrem R j))
theorem zds_d {Z : zR} {T : zT} {d i : Nat} {R : zR} : zds Z T (d + 1) i R = (match zd1 Z T i R with | none => none | some D => zds Z T d (i + 1) D) := by
  rw [zds_s]
  unfold zd1
  by_cases c0 : tK T i = 0
  · rw [if_pos c0, if_pos c0]
    cases zrt Z T i <;> rfl
  · rw [if_neg c0, if_neg c0]
    by_cases c1 : tK T i = 1
    · rw [if_pos c1, if_pos c1]
      cases zrt Z T i <;> rfl
    · rw [if_neg c1, if_neg c1]
      by_cases c2 : tK T i = 2
      · rw [if_pos c2, if_pos c2]
      · rw [if_neg c2, if_neg c2]
        cases zrt R T i <;> rfl
theorem zd1_1 {Z : zR} {T : zT} {i : Nat} {R D : zR} (h : zd1 Z T i R = some D) : D.1 ≤ R.1 + 1 := by
  unfold zd1 at h
  by_cases c0 : tK T i = 0
  · rw [if_pos c0] at h
    cases hz : zrt Z T i with
    | none => rw [hz] at h; cases h
    | some j => rw [hz] at h; cases h; omega
  · rw [if_neg c0] at h
    by_cases c1 : tK T i = 1
    · rw [if_pos c1] at h
      cases hz : zrt Z T i with
      | none => rw [hz] at h; cases h; omega
      | some j => rw [hz] at h; cases h
    · rw [if_neg c1] at h
      by_cases c2 : tK T i = 2
      · rw [if_pos c2] at h
        cases h
        exact zput_1 _ _ _ _ _
      · rw [if_neg c2] at h
        cases hz : zrt R T i with
        | none => rw [hz] at h; cases h
        | some j =>
          rw [hz] at h
          cases h
          have := zrem_1 R j
          omega
theorem z9doe {σ : zt_St} {z k : Nat} {Z D : zR} {T : zT} (hz : z < 6) (hk : k < T.1) (hB : zTB T) (hT : zTM σ T) (hZ : zRM σ z Z) (hZ3 : Z.1 ≤ 30) (hD : zRM σ 12 D) (hD3 : D.1 ≤ 30) : ∃ σ', zFM 12 σ σ' ∧ (match zd1 Z T k D with | none => f_X9_does σ (nI z) (nI k) = some (0, σ') | some D' => f_X9_does σ (nI z) (nI k) = some (1, σ') ∧ zRM σ' 12 D') := by
  have b1 := hB.1
  have b2 := hB.2 k hk
  have e := hT.2 k hk
  have k2 : nI (tK T k) = 2 ↔ tK T k = 2 := nI_eq (b := 2) (by omega) (by decide)
  have k0 : nI (tK T k) = 0 ↔ tK T k = 0 := nI_eq (b := 0) (by omega) (by decide)
  have kl : (2 : Int32) ≤ nI (tK T k) ↔ 2 ≤ tK T k := nI_leI (a := 2) (by decide) (by omega)
  have f1 := @z9find σ z Z (nI (tP T k)) (nI (tS T k)) ⟨by omega, hZ3⟩ hZ
  have f2 := @z9find σ 12 D (nI (tP T k)) (nI (tS T k)) ⟨by omega, hD3⟩ hD
  have f2 : f_X9_find σ 12 (nI (tP T k)) (nI (tS T k)) = some (oI 384 (zrt D T k)) := f2
  have f1 : f_X9_find σ (nI z) (nI (tP T k)) (nI (tS T k)) = some (oI (32 * z) (zrt Z T k)) := f1
  unfold f_X9_does f_X9_does_36 f_X9_does_50 f_X9_does_108 f_X9_does_160 f_X9_does_234
  simp only [zgd_i (show k < 10 by omega) (show 10 < 2 ^ 31 by decide), nI_clamp (show k < 2 ^ 31 by omega), e.1, e.2.1, e.2.2.1, e.2.2.2.1, e.2.2.2.2, f1, f2, zbd_s, kl, k2, k0, zc12, hD.1]
  unfold zd1
  by_cases c0 : tK T k = 0
  · rw [if_neg (show ¬ 2 ≤ tK T k by omega), if_pos c0]
    refine ⟨σ, zFM_r, ?_⟩
    cases hz1 : zrt Z T k with
    | none =>
      rw [if_pos (show oI (32 * z) none = -1 from rfl), if_pos c0, if_neg (show ¬ (0 : Int32) = 1 by decide)]
    | some j =>
      have hj := (zrw_lt hz1).1
      rw [if_neg (oI_1 (by omega)), if_pos c0, if_pos trivial]
      exact ⟨rfl, hD⟩
  · rw [if_neg c0]
    by_cases c1 : tK T k = 1
    · rw [if_neg (show ¬ 2 ≤ tK T k by omega), if_pos c1]
      refine ⟨σ, zFM_r, ?_⟩
      cases hz1 : zrt Z T k with
      | none =>
        rw [if_pos (show oI (32 * z) none = -1 from rfl), if_neg c0, if_pos trivial]
        exact ⟨rfl, hD⟩
      | some j =>
        have hj := (zrw_lt hz1).1
        rw [if_neg (oI_1 (by omega)), if_neg c0, if_neg (show ¬ (1 : Int32) = 0 by decide)]
    · rw [if_neg c1, if_pos (show 2 ≤ tK T k by omega)]
      by_cases c2 : tK T k = 2
      · rw [if_pos c2, if_pos c2]
        have hq : zrt D T k = zrw D (nI (tP T k)) (nI (tS T k)) := rfl
        unfold zput
        rw [← hq]
        cases hz1 : zrt D T k with
        | none =>
          refine ⟨zt_st (zc4 σ 103 (32 * 12 + D.1) (nI (tP T k)) (nI (tS T k)) (nI (tV T k)) (nI (tL T k))) 103 12 (nI (D.1 + 1)), zFM_t (zFM_w (by omega)) zFM_c, ?_, zRM_u hD (fun i a b => by omega)⟩
          rw [if_pos (show oI 384 none = -1 from rfl), show f_X9_lays σ 12 (nI D.1) (nI (tP T k)) (nI (tS T k)) (nI (tV T k)) (nI (tL T k)) = some (zc4 σ 103 (32 * 12 + D.1) (nI (tP T k)) (nI (tS T k)) (nI (tV T k)) (nI (tL T k))) from z9lay (s := 12) (by omega), zbd_s, if_pos (show oI 384 none = -1 from rfl), zc4_o (by omega), hD.1, nI_1, zlt_e]
        | some j =>
          have hj := (zrw_lt hz1).1
          refine ⟨zt_st (zc4 σ 103 (32 * 12 + j) (nI (tP T k)) (nI (tS T k)) (nI (tV T k)) (nI (tL T k))) 103 12 (nI D.1), zFM_t (zFM_w (by omega)) zFM_c, ?_, zRM_u hD (fun i a b => by omega)⟩
          rw [if_neg (oI_1 (show 384 + j < 2 ^ 31 by omega)), show oI 384 (some j) - 384 = nI j from (pk_sub (a := 384 + j) (b := 384) (by omega)).trans (congrArg nI (by omega)), show f_X9_lays σ 12 (nI j) (nI (tP T k)) (nI (tS T k)) (nI (tV T k)) (nI (tL T k)) = some (zc4 σ 103 (32 * 12 + j) (nI (tP T k)) (nI (tS T k)) (nI (tV T k)) (nI (tL T k))) from z9lay (s := 12) (by omega), zbd_s, if_neg (oI_1 (show 384 + j < 2 ^ 31 by omega)), zc4_o (by omega), hD.1, show nI D.1 + 0 = nI D.1 from nI_add D.1 0, zlt_e]
      · rw [if_neg c2, if_neg c2]
        cases hz1 : zrt D T k with
        | none =>
          refine ⟨σ, zFM_r, ?_⟩
          rw [if_pos (show oI 384 none = -1 from rfl), if_pos (show oI 384 none = -1 from rfl)]
        | some j =>
          have hj := (zrw_lt hz1).1
          have q := hD.2 (D.1 - 1) (by omega)
          have hl : (384 + nI D.1) - 1 = nI (32 * 12 + (D.1 - 1)) := by
            rw [zl_384, zl_1, nI_add, pk_sub (by omega)]
            exact congrArg nI (by omega)
          refine ⟨zt_st (zc4 σ 103 (32 * 12 + j) (nI (zP D (D.1 - 1))) (nI (zS D (D.1 - 1))) (nI (zV D (D.1 - 1))) (nI (zL D (D.1 - 1)))) 103 12 (nI (D.1 - 1)), zFM_t (zFM_w (by omega)) zFM_c, ?_, ?_⟩
          · rw [if_neg (oI_1 (by omega)), hl, zgd_i (by omega) (by decide), zgd_i (by omega) (by decide), zgd_i (by omega) (by decide), zgd_i (by omega) (by decide), nI_clamp (by omega), q.1, q.2.1, q.2.2.1, q.2.2.2, show oI 384 (some j) - 384 = nI j from (pk_sub (a := 384 + j) (b := 384) (by omega)).trans (congrArg nI (by omega)), show f_X9_lays σ 12 (nI j) (nI (zP D (D.1 - 1))) (nI (zS D (D.1 - 1))) (nI (zV D (D.1 - 1))) (nI (zL D (D.1 - 1))) = some (zc4 σ 103 (32 * 12 + j) (nI (zP D (D.1 - 1))) (nI (zS D (D.1 - 1))) (nI (zV D (D.1 - 1))) (nI (zL D (D.1 - 1)))) from z9lay (s := 12) (by omega), zbd_s, zc4_o (by omega), hD.1, show nI D.1 - 1 = nI (D.1 - 1) from pk_sub (a := D.1) (b := 1) (by omega), zlt_e, if_neg (oI_1 (by omega))]
          · exact zRM_u hD (fun i a b => by omega)
theorem zTM_f {σ σ' : zt_St} {T : zT} {o : Nat} (hT : zTM σ T) (h : zFM o σ σ') : zTM σ' T := by
  unfold zTM at *
  rw [h.1 94 (by omega), h.1 108 (by omega), h.1 109 (by omega), h.1 110 (by omega), h.1 111 (by omega), h.1 112 (by omega)]
  exact hT
theorem zs_upd {n : Nat} {σ : zt_St} {a b c : Int32} : f_X9_update_25 (n + 1) σ a b c = f_X9_update_25b (f_X9_update_25 n) σ a b c := rfl
theorem z9up0 {n : Nat} {σ : zt_St} {a c : Int32} : f_X9_update_25 (n + 1) σ a 0 c = f_X9_update_50 σ a 0 := by
  rw [zs_upd]
  unfold f_X9_update_25b
  rw [if_pos (show (0 : Int32) = 0 from rfl), ite_self]
theorem z9upL {z : Nat} {Z : zR} {T : zT} (hz : z < 6) (hB : zTB T) (hZ3 : Z.1 ≤ 30) : ∀ d i (σ : zt_St) (D : zR) m, i + d = T.1 → zTM σ T → zRM σ z Z → zRM σ 12 D → D.1 + d ≤ 30 → ∃ σ', zFM 12 σ σ' ∧ (match zds Z T d i D with | none => f_X9_update_25 (m + d + 1) σ (nI z) 1 (nI i) = f_X9_update_50 σ' (nI z) 0 | some D' => f_X9_update_25 (m + d + 1) σ (nI z) 1 (nI i) = f_X9_update_50 σ' (nI z) 1 ∧ zRM σ' 12 D' ∧ D'.1 ≤ 30) := by
  intro d
  induction d with
  | zero =>
    intro i σ D m h hT hZ hD hn
    have b1 := hB.1
    refine ⟨σ, zFM_r, ?_, hD, by omega⟩
    rw [zs_upd]
    unfold f_X9_update_25b
    rw [hT.1, if_pos (nI_le (by omega) (by omega))]
  | succ d ih =>
    intro i σ D m h hT hZ hD hn
    have b1 := hB.1
    obtain ⟨σ1, w1, w2⟩ := z9doe hz (show i < T.1 by omega) hB hT hZ hZ3 hD (by omega)
    rw [show m + (d + 1) + 1 = (m + d + 1) + 1 from rfl, zs_upd, zds_d]
    unfold f_X9_update_25b
    rw [hT.1, if_neg (nI_ge (by omega) (by omega)), if_neg (show ¬ (1 : Int32) = 0 by decide), nI_1]
    cases hz1 : zd1 Z T i D with
    | none =>
      rw [hz1] at w2
      have w2 : f_X9_does σ (nI z) (nI i) = some (0, σ1) := w2
      rw [w2, zbd_s, zlt_e, zlt_e, z9up0]
      exact ⟨σ1, w1, rfl⟩
    | some D' =>
      rw [hz1] at w2
      have w3 : f_X9_does σ (nI z) (nI i) = some (1, σ1) := w2.1
      have w4 : zRM σ1 12 D' := w2.2
      have hd := zd1_1 hz1
      rw [w3, zbd_s, zlt_e, zlt_e]
      obtain ⟨σ2, v1, v2⟩ := ih (i + 1) σ1 D' m (by omega) (zTM_f hT w1) (w1.2 z Z (by omega) (by omega) hZ) w4 (by omega)
      exact ⟨σ2, zFM_t w1 v1, v2⟩
