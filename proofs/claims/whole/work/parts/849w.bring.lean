/-! what stays true of sets; a copy is brought up, in both -/
def zGd (R : zR) : Prop := zRB R ∧ zNN R ∧ zUQ R
theorem zGup {R : zR} {N j p s v l : Nat} (h : zGd R) (hN : N ≤ R.1 + 1) (hj : N = R.1 + 1 → j = R.1) (hp : zpl p = true) (hs : s < 5) (hv : v < 10000) (hl : l ≤ 50) (hn : (s = 1 ∨ s = 2) → znm v = true) (hu : ∀ i, i < N → i ≠ j → ¬ (zP R i = p ∧ zS R i = s)) : zGd (N, zup R j (p, s, v, l)) := by
  obtain ⟨h1, h2, h3⟩ := h
  have e1 : ∀ i, i ≠ j → zup R j (p, s, v, l) i = R.2 i := fun i q => if_neg q
  have e2 : zup R j (p, s, v, l) j = (p, s, v, l) := if_pos rfl
  refine ⟨fun i hi => ?_, fun i hi => ?_, fun i k hi hk q1 q2 => ?_⟩
  · have hi' : i < N := hi
    unfold zP zS zV zL
    show (zup R j (p, s, v, l) i).1 < 10000 ∧ (zup R j (p, s, v, l) i).2.1 < 5 ∧ (zup R j (p, s, v, l) i).2.2.1 < 10000 ∧ (zup R j (p, s, v, l) i).2.2.2 ≤ 50
    by_cases q : i = j
    · rw [q, e2]; exact ⟨zpl_lt hp, hs, hv, hl⟩
    · rw [e1 i q]; exact h1 i (by omega)
  · have hi' : i < N := hi
    unfold zP zS zV
    show zpl (zup R j (p, s, v, l) i).1 = true ∧ (((zup R j (p, s, v, l) i).2.1 = 1 ∨ (zup R j (p, s, v, l) i).2.1 = 2) → znm (zup R j (p, s, v, l) i).2.2.1 = true)
    by_cases q : i = j
    · rw [q, e2]; exact ⟨hp, hn⟩
    · rw [e1 i q]; exact h2 i (by omega)
  · have hi' : i < N := hi
    have hk' : k < N := hk
    have q1' : (zup R j (p, s, v, l) i).1 = (zup R j (p, s, v, l) k).1 := q1
    have q2' : (zup R j (p, s, v, l) i).2.1 = (zup R j (p, s, v, l) k).2.1 := q2
    by_cases c1 : i = j
    · by_cases c2 : k = j
      · omega
      · rw [c1, e2, e1 k c2] at q1' q2'
        exact absurd ⟨q1'.symm, q2'.symm⟩ (hu k hk' c2)
    · by_cases c2 : k = j
      · rw [c2, e2, e1 i c1] at q1' q2'
        exact absurd ⟨q1', q2'⟩ (hu i hi' c1)
      · rw [e1 i c1, e1 k c2] at q1' q2'
        exact h3 i k (by omega) (by omega) q1' q2'
theorem zput_g {R : zR} {p s v l : Nat} (h : zGd R) (hp : zpl p = true) (hs : s < 5) (hv : v < 10000) (hl : l ≤ 50) (hn : (s = 1 ∨ s = 2) → znm v = true) : zGd (zput R p s v l) := by
  have h1 := h.1
  have h3 := h.2.2
  have hp4 := zpl_lt hp
  unfold zput
  cases hq : zrw R (nI p) (nI s) with
  | none =>
    refine zGup h (Nat.le_refl _) (fun _ => rfl) hp hs hv hl hn (fun i hi hne w => ?_)
    have hi' : i < R.1 + 1 := hi
    exact zrw_no hq i (by omega) ⟨by rw [w.1], by rw [w.2]⟩
  | some j =>
    obtain ⟨j1, j2, j3⟩ := zrw_lt hq
    have b := h1 j j1
    have e2 := (nI_eq (by omega) (by omega)).mp j2
    have e3 := (nI_eq (by omega) (by omega)).mp j3
    exact zGup h (by omega) (fun w => absurd w (by omega)) hp hs hv hl hn (fun i hi hne w => hne (h3 i j hi j1 (w.1.trans e2.symm) (w.2.trans e3.symm)))
theorem zrem_g {R : zR} {j : Nat} (h : zGd R) (hj : j < R.1) : zGd (zrem R j) := by
  have h1 := h.1 (R.1 - 1) (by omega)
  have h2 := h.2.1 (R.1 - 1) (by omega)
  exact zGup (p := zP R (R.1 - 1)) (s := zS R (R.1 - 1)) (v := zV R (R.1 - 1)) (l := zL R (R.1 - 1)) h (by omega) (fun w => absurd w (by omega)) h2.1 h1.2.1 h1.2.2.1 h1.2.2.2 h2.2 (fun i hi hne w => by
    have := h.2.2 i (R.1 - 1) (by omega) (by omega) w.1 w.2
    omega)
theorem zmd_g {T : zT} (hT : zTG T) : ∀ d i R R', i + d ≤ T.1 → zGd R → zmd T d i R = some R' → zGd R' := by
  intro d
  induction d with
  | zero =>
    intro i R R' _ h e
    cases e
    exact h
  | succ d ih =>
    intro i R R' hi h e
    rw [zmd_s] at e
    obtain ⟨t1, t2, t3⟩ := hT i (by omega)
    by_cases c2 : tK T i = 2
    · rw [if_pos c2] at e
      obtain ⟨u1, u2, u3⟩ := t3 c2
      exact ih (i + 1) _ R' (by omega) (zput_g h t1 t2 u1 u2 u3) e
    · rw [if_neg c2] at e
      by_cases c3 : tK T i = 3
      · rw [if_pos c3] at e
        cases hq : zrt R T i with
        | none => rw [hq] at e; cases e
        | some j =>
          rw [hq] at e
          exact ih (i + 1) _ R' (by omega) (zrem_g h (zrw_lt hq).1) e
      · rw [if_neg c3] at e
        exact ih (i + 1) _ R' (by omega) h e
theorem zIW_g {σ τ σ' τ' : zt_St} {Z : Nat × (Nat → Nat)} {RS RS' : Nat → zR} {z : Nat} (h : zIW σ τ Z RS) (h1 : σ' 1 = σ 1) (ha : ∀ i, i < 6 → σ' (3 + 11 * i) 0 = σ (3 + 11 * i) 0) (h2 : τ' 95 = τ 95) (h3 : τ' 94 2 = τ 94 2) (hr : ∀ i, i < 6 → i ≠ z → RS' i = RS i ∧ RS' (6 + i) = RS (6 + i) ∧ (∀ c, 3 + 11 * i ≤ c → c ≤ 3 + 11 * i + 10 → σ' c = σ c) ∧ zRM τ' i (RS i) ∧ zRM τ' (6 + i) (RS (6 + i)) ∧ (∀ a, 96 ≤ a → a ≤ 102 → a ≠ 100 → τ' a i = τ a i) ∧ τ' 100 = τ 100) (hz' : zZn σ' τ' Z RS' z) : zIW σ' τ' Z RS' := by
  obtain ⟨⟨a1, a2⟩, ⟨b1, b2⟩, hB, h0, hz⟩ := h
  have hB6 := hB.1
  refine ⟨⟨by rw [h1]; exact a1, fun i hi => by rw [ha i (by omega)]; exact a2 i hi⟩, ⟨h3.trans b1, fun i hi => by rw [h2]; exact b2 i hi⟩, hB, h0, fun i hi => ?_⟩
  by_cases c : i = z
  · rw [c]; exact hz'
  · obtain ⟨r1, r2, r3, r4, r5, r6, r7⟩ := hr i hi c
    obtain ⟨⟨p1, p2, p3, p4⟩, p5, p6⟩ := hz i hi
    unfold zZn
    rw [r1, r2]
    exact ⟨⟨zRC_f p1 (fun c _ _ => r3 c (by omega) (by omega)), zRC_f p2 (fun c _ _ => r3 c (by omega) (by omega)), r4, r5⟩, p5, zZF_p p6 (r3 _ (by omega) (by omega)) r6 (by rw [r7]) (by rw [r7])⟩
theorem zah {se c : Nat} (h1 : se < 16) (h2 : c < 16) : nI se - nI c + 16 = nI (se + 16 - c) := by
  rw [Int32.sub_eq_add_neg, Int32.add_assoc, Int32.add_comm (-nI c), ← Int32.add_assoc, ← Int32.sub_eq_add_neg, zl_16, nI_add, pk_sub (by omega)]
/-- the copy is what the zone has, in both -/
theorem zBup {kk : Nat} (hk : kk < 600) {σ τ : zt_St} {z : Nat} {y : Int32} (hz6 : z < 6) (hI : zINV kk σ τ) : ∃ σ' τ', f_X6_renewCopy_86 (3 + 11 * z) σ y = some (y, σ') ∧ f_X9_bringUp_103 (zt_st τ 94 0 0) y (nI z) = some (y, τ') ∧ τ' 94 0 = 0 ∧ zINV (kk + 1) σ' τ' ∧ (∀ a, 94 ≤ a → σ' a = σ a) ∧ (∀ a, a < 94 ∨ a = 122 → τ' a = τ a) := by
  obtain ⟨hk6, Z, RS, T, now, cc, t, ⟨hW, a2, a3, a4, a5⟩, hK, hu, hT, hTo, hnow, ht⟩ := hI
  obtain ⟨⟨r1, r2, r3, r4⟩, ⟨o1, o2, o3⟩, ⟨lf, l0, l1, l2⟩, ⟨se, s0, s1, s2⟩, k1, k2, k3, k4, k5, k6, k7, k8⟩ := hW.2.2.2.2 z hz6
  have h20 := o1.1
  obtain ⟨σ1, b1, b2, b3⟩ := z3bec (zK6 hz6 o1.1) (zK1 hz6 o1.1) (by omega) r1
  have r3' : zRM (zt_st τ 94 0 0) z (RS z) := zRM_f r3 (fun c _ _ => zst_o (by omega))
  obtain ⟨τ1, m1, m2, m3, m4⟩ := z9cp (s := z) (o := 6 + z) (by omega) (by omega) (by omega) (by omega) r3'
  have q97 : τ1 97 z = nI se := by rw [m3 97 (by omega), zst_o (by decide)]; exact s2
  have q2 : σ1 (3 + 11 * z) 2 = nI se := by rw [b3 _ (by omega)]; exact s1
  have e1 : f_X6_renewCopy_86 (3 + 11 * z) σ y = some (y, zt_st σ1 (3 + 11 * z) 3 (nI se)) := by
    unfold f_X6_renewCopy_86
    rw [b1, zbd_s, q2]
    rfl
  have e2 : f_X9_bringUp_103 (zt_st τ 94 0 0) y (nI z) = some (y, zt_st τ1 98 z (nI se)) := by
    unfold f_X9_bringUp_103
    rw [zl_6, nI_add, m1, zbd_s, zgd_i hz6 (by decide), zgd_i hz6 (by decide), nI_clamp (by omega), q97]
    rfl
  have so : ∀ a, (a < 3 + 11 * z + 6 ∨ 3 + 11 * z + 10 < a) → a ≠ 3 + 11 * z → zt_st σ1 (3 + 11 * z) 3 (nI se) a = σ a := fun a h1 h2 => (zst_o h2).trans (b3 a (by omega))
  have sj : ∀ j, j ≠ 3 → zt_st σ1 (3 + 11 * z) 3 (nI se) (3 + 11 * z) j = σ (3 + 11 * z) j := fun j h => (zst_j h).trans (by rw [b3 _ (by omega)])
  have mo : ∀ a, a ≠ 94 → a ≠ 98 → a < 103 ∨ 107 < a → zt_st τ1 98 z (nI se) a = τ a := fun a h1 h2 h3 => (zst_o h2).trans ((m3 a h3).trans (zst_o h1))
  have mj : ∀ j, j ≠ 0 → zt_st τ1 98 z (nI se) 94 j = τ 94 j := fun j h => (congrFun (zst_o (by decide)) j).trans ((congrFun (m3 94 (by omega)) j).trans (zst_j h))
  have m98 : ∀ i, zt_st τ1 98 z (nI se) 98 i = if i = z then nI se else τ 98 i := fun i => zst_if.trans (by rw [m3 98 (by omega), zst_o (by decide)])
  have mR : ∀ i R, i ≠ 6 + z → R.1 ≤ 32 → zRM τ i R → zRM (zt_st τ1 98 z (nI se)) i R := fun i R h1 h2 h3 => zRM_f (m4 i R h1 h2 (zRM_f h3 (fun c _ _ => zst_o (by omega)))) (fun c _ _ => zst_o (by omega))
  refine ⟨_, _, e1, e2, ?_, ⟨hk, Z, fun j => if j = 6 + z then RS z else RS j, T, now, cc, t, ⟨zIW_g (z := z) hW (so 1 (by omega) (by omega)) (fun i hi => ?_) (mo 95 (by decide) (by decide) (by omega)) (mj 2 (by decide)) (fun i hi hne => ?_) ?_, by rw [so 80 (by omega) (by omega)]; exact a2, (mj 1 (by decide)).trans a3, by rw [so 80 (by omega) (by omega), mj 11 (by decide)]; exact a4, a5⟩, zIK_f hK (fun a _ _ => so a (by omega) (by omega)) (fun a _ _ => mo a (by omega) (by omega) (by omega)) (mj 24 (by decide)), by rw [so 90 (by omega) (by omega), mo 113 (by decide) (by decide) (by omega)]; exact hu, zTT_f hT (fun a _ _ => so a (by omega) (by omega)) (fun a _ _ => mo a (by omega) (by omega) (by omega)) (mj 17 (by decide)), zTo_f hTo (so 92 (by omega) (by omega)) (mo 121 (by decide) (by decide) (by omega)), by omega, by omega⟩, fun a h => so a (by omega) (by omega), fun a h => mo a (by omega) (by omega) (by omega)⟩
  · rw [zst_o (by decide), m3 94 (by omega)]; exact zst_s
  · by_cases c : i = z
    · rw [c]; exact sj 0 (by decide)
    · rw [so _ (by omega) (by omega)]
  · obtain ⟨⟨p1, p2, p3, p4⟩, ⟨w1, w2, _⟩, _⟩ := hW.2.2.2.2 i hi
    have g1 := w1.1
    have g2 := w2.1
    refine ⟨if_neg (by omega), if_neg (by omega), fun c c1 c2 => so c (by omega) (by omega), mR i _ (by omega) (by omega) p3, mR (6 + i) _ (by omega) (by omega) p4, fun a c1 c2 c3 => ?_, mo 100 (by decide) (by decide) (by omega)⟩
    by_cases c : a = 98
    · rw [c, m98, if_neg hne]
    · rw [mo a (by omega) c (by omega)]
  · have x1 : (fun j => if j = 6 + z then RS z else RS j) z = RS z := if_neg (by omega)
    have x2 : (fun j => if j = 6 + z then RS z else RS j) (6 + z) = RS z := if_pos rfl
    unfold zZn
    rw [x1, x2]
    refine ⟨⟨zRC_f r1 (fun c c1 c2 => so c (by omega) (by omega)), zRC_f b2 (fun c c1 c2 => zst_o (by omega)), mR z _ (by omega) (by omega) r3, zRM_f m2 (fun c _ _ => zst_o (by omega))⟩, ⟨o1, o1, fun h => ⟨(o3 h).1, (o3 h).1⟩⟩, ⟨lf, l0, (sj 1 (by decide)).trans l1, by rw [mo 96 (by decide) (by decide) (by omega)]; exact l2⟩, ⟨se, s0, (sj 2 (by decide)).trans s1, by rw [mo 97 (by decide) (by decide) (by omega)]; exact s2⟩, ?_, ?_, ?_, ?_, ?_, ?_, ?_, ?_⟩
    · rw [zst_s, m98, if_pos rfl]
    · rw [m98, if_pos rfl]; exact Or.inr ⟨se, s0, rfl⟩
    · rw [sj 4 (by decide), mo 99 (by decide) (by decide) (by omega)]; exact k3
    · rw [mo 99 (by decide) (by decide) (by omega)]; exact k4
    · rw [sj 5 (by decide), mo 100 (by decide) (by decide) (by omega)]; exact k5
    · rw [sj 6 (by decide), mo 100 (by decide) (by decide) (by omega)]; exact k6
    · rw [sj 7 (by decide), mo 101 (by decide) (by decide) (by omega)]; exact k7
    · rw [sj 8 (by decide), mo 102 (by decide) (by decide) (by omega)]; exact k8
theorem zc_bringUp {kk : Nat} (hk : kk < 600) (x1 : Int32) : zSim kk (fun σ => f_X8_bringUp σ x1) (fun τ => f_X9_bringUp τ x1) zg3 := by
  intro σ τ hI
  show zSimC kk (f_X8_bringUp σ x1) (f_X9_bringUp τ x1) zg3 σ τ
  obtain ⟨hk6, Z, RS, T, now, cc, t, ⟨⟨hZC, hZM, hB, h0, hz6⟩, hJ⟩, hK, hu, hT, hTo, hnow, ht⟩ := id hI
  obtain ⟨b, b1, b2, b3⟩ := zArZ (σ := σ) (τ := τ) hZC hZM hB x1
  unfold f_X8_bringUp f_X9_bringUp
  rw [b1, b2, zbd_s, z9as1, zbd_s]
  simp only [zlt_e]
  cases b with
  | false => exact zRef hI hk rfl rfl zn3 zn1 (fun _ => rfl)
  | true =>
    obtain ⟨z, hz, e⟩ := b3 rfl
    have h6 := hB.1
    have hz' : z < 6 := by omega
    obtain ⟨⟨r1, r2, r3, r4⟩, ⟨o1, o2, o3⟩, ⟨lf, l0, l1, l2⟩, ⟨se, s0, s1, s2⟩, k1, k2, k3, k4, k5, k6, k7, k8⟩ := hz6 z hz'
    have h20 := o1.1
    have h20' := o2.1
    have r3' : zRM (zt_st τ 94 0 0) z (RS z) := zRM_f r3 (fun c _ _ => zst_o (by omega))
    have r4' : zRM (zt_st τ 94 0 0) (6 + z) (RS (6 + z)) := zRM_f r4 (fun c _ _ => zst_o (by omega))
    have q98 : zt_st τ 94 0 0 98 = τ 98 := zst_o (by decide)
    have q97 : zt_st τ 94 0 0 97 = τ 97 := zst_o (by decide)
    have fin : ∀ y, f_X6_renewCopy σ (3 + 11 * z) = f_X6_renewCopy_86 (3 + 11 * z) σ y → zSimC kk (zt_bd (f_X6_renewCopy σ (3 + 11 * z)) fun q9 => some (0, q9.1, q9.2)) (f_X9_bringUp_103 (zt_st τ 94 0 0) y (nI z)) zg3 σ τ := fun y ey => by
      obtain ⟨σ', τ', c1, c2, c3, c4, c5, c6⟩ := zBup (y := y) hk hz' hI
      rw [ey, c1, c2, zbd_s]
      exact zSuc rfl rfl c3 c4 c5 c6
    rw [if_pos (show true = true from rfl), zbx_0, e, z3at hZC hB hz, zbd_s, zgd_d (zkd5 z hz'), if_neg (show ¬ zb true = 0 by decide), if_pos (show true = true from rfl), zgd_i hz' (by decide), zgd_i hz' (by decide), zgd_i hz' (by decide), nI_clamp (by omega), q98, q97, s2]
    have cnt : f_X9_bringUp_70 (zt_st τ 94 0 0) 0 (nI z) = f_X9_bringUp_103 (zt_st τ 94 0 0) (nI (RS z).1) (nI z) := by
      unfold f_X9_bringUp_70
      rw [if_pos rfl, zgd_i (by omega) (by decide), nI_clamp (by omega), r3'.1]
    rcases k2 with c | ⟨c, hc, ec⟩
    · rw [c, if_pos rfl]
      have e9 : ∀ x, f_X9_bringUp_50 (zt_st τ 94 0 0) (nI z) x = f_X9_bringUp_103 (zt_st τ 94 0 0) (nI (RS z).1) (nI z) := fun x => by
        unfold f_X9_bringUp_50 f_X9_bringUp_69
        rw [zgd_i hz' (by decide), nI_clamp (by omega), q98, c, if_pos rfl, cnt]
      rw [e9]
      refine fin _ ?_
      unfold f_X6_renewCopy f_X6_renewCopy_39
      have n1 : ¬ (-1 : Int32) = nI se := fun w => zm1 (n := se) (by omega) w.symm
      have n2 : (-1 : Int32) ≤ nI se := Int32.le_trans (show (-1 : Int32) ≤ 0 by decide) (nI_pos' (by omega))
      rw [k1, c, s1, if_neg n1, if_pos n2, if_pos rfl, r1.1]
    · have n98 : ¬ τ 98 z = -1 := by rw [ec]; exact zm1 (by omega)
      rw [if_neg n98, ec, zah s0 hc, zl_16, pk_rem (by omega) (by omega) (by omega)]
      by_cases c0 : se = c
      · rw [if_pos (show nI ((se + 16 - c) % 16) = 0 by rw [show (se + 16 - c) % 16 = 0 by omega]; rfl)]
        have e0 : f_X6_renewCopy σ (3 + 11 * z) = some (0, σ) := by
          unfold f_X6_renewCopy
          rw [k1, ec, s1, if_pos (by rw [c0])]
        rw [e0, zbd_s]
        exact zRea hI hk rfl rfl
      · rw [if_neg (nI_ne0 (by omega) (by omega))]
        have e8 : f_X6_renewCopy σ (3 + 11 * z) = if 4 < (se + 16 - c) % 16 then f_X6_renewCopy_86 (3 + 11 * z) σ (nI (RS z).1) else f_X6_renewCopy_86 (3 + 11 * z) σ (nI (zct (zqd (RS z) (RS (6 + z))) (RS z).1 0) + nI (zct (zqd (RS (6 + z)) (RS z)) (RS (6 + z)).1 0)) := by
          have e39 : ∀ y0 y1 : Int32, y1 + y0 = nI ((se + 16 - c) % 16) → f_X6_renewCopy_39 (3 + 11 * z) σ y0 y1 = if 4 < (se + 16 - c) % 16 then f_X6_renewCopy_86 (3 + 11 * z) σ (nI (RS z).1) else f_X6_renewCopy_86 (3 + 11 * z) σ (nI (zct (zqd (RS z) (RS (6 + z))) (RS z).1 0) + nI (zct (zqd (RS (6 + z)) (RS z)) (RS (6 + z)).1 0)) := fun y0 y1 ey => by
            unfold f_X6_renewCopy_39
            rw [k1, if_neg n98, ey, r1.1, z3cni (zK1 hz' o1.1) r1 o1.2.1 (zK6 hz' o2.1) r2 o2.2.1, z3cni (zK6 hz' o2.1) r2 o2.2.1 (zK1 hz' o1.1) r1 o1.2.1, zbd_s, zbd_s]
            by_cases c4 : 4 < (se + 16 - c) % 16
            · rw [if_pos c4, if_pos (show (4 : Int32) < nI ((se + 16 - c) % 16) from nI_lt c4 (by omega))]
            · rw [if_neg c4, if_neg (show ¬ (4 : Int32) < nI ((se + 16 - c) % 16) from nI_nlt (a := 4) (by omega) (by decide))]
          unfold f_X6_renewCopy
          rw [k1, ec, s1, if_neg (fun w => c0 ((nI_eq (by omega) (by omega)).mp w).symm)]
          by_cases c1 : c ≤ se
          · rw [if_pos (nI_le c1 (by omega))]
            exact e39 0 _ (by rw [pk_sub c1, zl_0, nI_add]; congr 1; omega)
          · rw [if_neg (nI_ge (by omega) (by omega))]
            exact e39 16 _ (by rw [zah s0 hc]; congr 1; omega)
        have e9 : f_X9_bringUp_50 (zt_st τ 94 0 0) (nI z) (nI ((se + 16 - c) % 16)) = if 4 < (se + 16 - c) % 16 then f_X9_bringUp_103 (zt_st τ 94 0 0) (nI (RS z).1) (nI z) else f_X9_bringUp_103 (zt_st τ 94 0 0) (nI (zct (zqd (RS z) (RS (6 + z))) (RS z).1 0) + nI (zct (zqd (RS (6 + z)) (RS z)) (RS (6 + z)).1 0)) (nI z) := by
          unfold f_X9_bringUp_50 f_X9_bringUp_69
          rw [zgd_i hz' (by decide), nI_clamp (by omega), q98, if_neg n98, cnt]
          by_cases c4 : 4 < (se + 16 - c) % 16
          · rw [if_pos c4, if_pos (show (4 : Int32) < nI ((se + 16 - c) % 16) from nI_lt c4 (by omega))]
          · rw [if_neg c4, if_neg (show ¬ (4 : Int32) < nI ((se + 16 - c) % 16) from nI_nlt (a := 4) (by omega) (by decide))]
            unfold f_X9_bringUp_70
            rw [if_neg zn1, zl_6, nI_add, z9unl (s := z) (o := 6 + z) ⟨by omega, by omega⟩ r3' o1.2.1 ⟨by omega, by omega⟩ r4' o2.2.1, z9unl (s := 6 + z) (o := z) ⟨by omega, by omega⟩ r4' o2.2.1 ⟨by omega, by omega⟩ r3' o1.2.1, zbd_s, zbd_s]
        rw [e9]
        by_cases c4 : 4 < (se + 16 - c) % 16
        · rw [if_pos c4] at e8 ⊢
          exact fin _ e8
        · rw [if_neg c4] at e8 ⊢
          exact fin _ e8
