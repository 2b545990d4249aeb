/-! calls that set a field, in both -/
theorem zIK_n {σ τ : zt_St} {c now now' t : Nat} (h : zIK σ τ c now t) (hn : now ≤ now') : zIK σ τ c now' t := by
  obtain ⟨a1, a2, a3, a4, w, ρ, k1, k⟩ := h
  refine ⟨a1, a2, a3, a4, w, ρ, fun r hr => ?_, k⟩
  obtain ⟨b1, b2, b3, b4, kd, l, tm, g1, g2, g3, g4, g5, g6, g7⟩ := k1 r hr
  exact ⟨b1, b2, b3, b4, kd, l, tm, g1, g2, g3, g4, g5, by omega, g7⟩
theorem zZF_p {σ τ σ' τ' : zt_St} {i : Nat} (h : zZF σ τ i) (h1 : σ' (3 + 11 * i) = σ (3 + 11 * i)) (h2 : ∀ a, 96 ≤ a → a ≤ 102 → a ≠ 100 → τ' a i = τ a i) (h3 : τ' 100 (2 * i) = τ 100 (2 * i)) (h4 : τ' 100 (2 * i + 1) = τ 100 (2 * i + 1)) : zZF σ' τ' i := by
  unfold zZF at h ⊢
  rw [h1, h2 96 (by decide) (by decide) (by decide), h2 97 (by decide) (by decide) (by decide), h2 98 (by decide) (by decide) (by decide), h2 99 (by decide) (by decide) (by decide), h3, h4, h2 101 (by decide) (by decide) (by decide), h2 102 (by decide) (by decide) (by decide)]
  exact h
theorem zIW_z {σ τ σ' τ' : zt_St} {Z : Nat × (Nat → Nat)} {RS : Nat → zR} {z : Nat} (h : zIW σ τ Z RS) (h1 : ∀ a, a < 69 → a ≠ 3 + 11 * z → σ' a = σ a) (h0 : σ' (3 + 11 * z) 0 = σ (3 + 11 * z) 0) (h2 : τ' 95 = τ 95) (h3 : ∀ a, 103 ≤ a → a ≤ 107 → τ' a = τ a) (h4 : τ' 94 2 = τ 94 2) (h5 : ∀ i, i < 6 → i ≠ z → zZF σ' τ' i) (h6 : zZF σ' τ' z) : zIW σ' τ' Z RS := by
  obtain ⟨⟨a1, a2⟩, ⟨b1, b2⟩, hB, h0', hz⟩ := h
  have hB6 := hB.1
  refine ⟨⟨by rw [h1 1 (by decide) (by omega)]; exact a1, fun i hi => ?_⟩, ⟨h4.trans b1, fun i hi => by rw [h2]; exact b2 i hi⟩, hB, h0', fun i hi => ?_⟩
  · by_cases c : i = z
    · rw [c, h0, ← c]; exact a2 i hi
    · rw [h1 _ (by omega) (by omega)]; exact a2 i hi
  · obtain ⟨⟨r1, r2, r3, r4⟩, c1, c2⟩ := hz i hi
    refine ⟨⟨zRC_f r1 (fun c _ _ => h1 c (by omega) (by omega)), zRC_f r2 (fun c _ _ => h1 c (by omega) (by omega)), zRM_f r3 (fun c p q => h3 c p q), zRM_f r4 (fun c p q => h3 c p q)⟩, c1, ?_⟩
    by_cases c : i = z
    · rw [c]; exact h6
    · exact h5 i hi c
/-- a field of a zone is set, in both -/
theorem zINV_z {kk : Nat} {σ τ σ' τ' : zt_St} {z : Nat} (h : zINV kk σ τ) (hk : kk < 600) (hz : z < 6) (h1 : ∀ a, a ≠ 3 + 11 * z → σ' a = σ a) (h0 : σ' (3 + 11 * z) 0 = σ (3 + 11 * z) 0) (h2 : ∀ a, a ≠ 94 → a < 96 ∨ 102 < a → τ' a = τ a) (h4 : ∀ j, j ≠ 0 → τ' 94 j = τ 94 j) (h5 : ∀ i, i ≠ z → (∀ a, 96 ≤ a → a ≤ 102 → a ≠ 100 → τ' a i = τ a i) ∧ τ' 100 (2 * i) = τ 100 (2 * i) ∧ τ' 100 (2 * i + 1) = τ 100 (2 * i + 1)) (h6 : zZF σ τ z → zZF σ' τ' z) : zINV (kk + 1) σ' τ' := by
  obtain ⟨_, Z, RS, T, now, c, t, ⟨a1, a2, a3, a4, a5⟩, b, d, e, f, g, i⟩ := h
  refine ⟨hk, Z, RS, T, now, c, t, ⟨zIW_z (z := z) a1 (fun a _ q => h1 a q) h0 (h2 95 (by decide) (by omega)) (fun a p q => h2 a (by omega) (by omega)) (h4 2 (by decide)) (fun i hi hne => ?_) (h6 (a1.2.2.2.2 z hz).2.2), by rw [h1 80 (by omega)]; exact a2, (h4 1 (by decide)).trans a3, by rw [h1 80 (by omega)]; exact a4.trans (h4 11 (by decide)).symm, a5⟩, zIK_f b (fun a _ _ => h1 a (by omega)) (fun a _ _ => h2 a (by omega) (by omega)) (h4 24 (by decide)), by rw [h1 90 (by omega), h2 113 (by decide) (by omega)]; exact d, zTT_f e (fun a _ _ => h1 a (by omega)) (fun a _ _ => h2 a (by omega) (by omega)) (h4 17 (by decide)), zTo_f f (h1 92 (by omega)) (h2 121 (by decide) (by omega)), by omega, by omega⟩
  obtain ⟨p, q, r⟩ := h5 i hne
  exact zZF_p (a1.2.2.2.2 i hi).2.2 (h1 _ (by omega)) p q r
theorem zst_2 {σ : zt_St} {k j a b : Nat} {x : Int32} (h : a ≠ k ∨ b ≠ j) : zt_st σ k j x a b = σ a b := by
  rcases h with h | h
  · rw [zst_o h]
  · exact zst_j h
theorem zc_setDead {kk : Nat} (hk : kk < 600) (x1 : Int32) (d : Bool) : zSim kk (fun σ => f_X8_setDead σ x1 (zb d)) (fun τ => zt_bd (f_X9_setDead τ x1 (zb d)) fun τ' => some (0, τ')) zg3 := by
  intro σ τ hI
  show zSimC kk (f_X8_setDead σ x1 (zb d)) (zt_bd (f_X9_setDead τ x1 (zb d)) fun τ' => some (0, τ')) zg3 σ τ
  obtain ⟨hk6, Z, RS, T, now, c, t, ⟨⟨hZC, hZM, hB, h0, hz6⟩, hJ⟩, hK, hu, hT, hTo, hnow, ht⟩ := id hI
  obtain ⟨b, b1, b2, b3⟩ := zArZ (σ := σ) (τ := τ) hZC hZM hB x1
  unfold f_X8_setDead f_X9_setDead
  rw [b1, b2, zbd_s, z9as1, zbd_s]
  simp only [zlt_e]
  cases b with
  | false => exact zRef hI hk rfl rfl zn3 zn1 (fun _ => rfl)
  | true =>
    obtain ⟨z, hz, e⟩ := b3 rfl
    have h6 := hB.1
    rw [if_pos (show true = true from rfl), zbx_0, e, z3at hZC hB hz, zbd_s, zgd_d (zkd5 z (by omega)), zbg, zgd_t, if_neg (show ¬ zb true = 0 by decide), zgd_i (by omega) (by decide), zgd_t, nI_clamp (by omega)]
    refine zSuc (v := 0) rfl rfl ?_ (zINV_z (z := z) hI hk (by omega) (fun a h => zst_o h) (zst_j (by decide)) (fun a h q => (zst_o (by omega)).trans (zst_o h)) (fun j h => (congrFun (zst_o (by decide)) j).trans (zst_j h)) (fun i hne => ⟨fun a _ _ _ => (zst_2 (Or.inr hne)).trans (zst_2 (by omega)), (zst_2 (by omega)).trans (zst_2 (by omega)), (zst_2 (by omega)).trans (zst_2 (by omega))⟩) (fun f => ?_)) (fun a h => zst_o (by omega)) (fun a h => (zst_o (by omega)).trans (zst_o (by omega)))
    · rw [zst_o (by decide)]; exact zst_s
    · obtain ⟨⟨lf, f0, f1, f2⟩, ⟨se, g0, g1, g2⟩, k1, k2, k3, k4, k5, k6, k7, k8⟩ := f
      refine ⟨⟨lf, f0, (zst_j (by decide)).trans f1, (zst_2 (by omega)).trans ((zst_2 (by omega)).trans f2)⟩, ⟨se, g0, (zst_j (by decide)).trans g1, (zst_2 (by omega)).trans ((zst_2 (by omega)).trans g2)⟩, ?_, ?_, ?_, ?_, ?_, ?_, ?_, ?_⟩
      · rw [zst_j (by decide), zst_o (by decide), zst_o (by decide)]; exact k1
      · rw [zst_o (by decide), zst_o (by decide)]; exact k2
      · rw [zst_s, zst_s]
      · rw [zst_s]; exact zb01
      · rw [zst_j (by decide), zst_o (by decide), zst_o (by decide)]; exact k5
      · rw [zst_j (by decide), zst_o (by decide), zst_o (by decide)]; exact k6
      · rw [zst_j (by decide), zst_o (by decide), zst_o (by decide)]; exact k7
      · rw [zst_j (by decide), zst_o (by decide), zst_o (by decide)]; exact k8
theorem zc_setWindow {kk : Nat} (hk : kk < 600) (x1 x2 x3 : Int32) : zSim kk (fun σ => f_X8_setWindow σ x1 x2 x3) (fun τ => zt_bd (f_X9_setWindow τ x1 x2 x3) fun τ' => some (0, τ')) zg31 := by
  intro σ τ hI
  show zSimC kk (f_X8_setWindow σ x1 x2 x3) (zt_bd (f_X9_setWindow τ x1 x2 x3) fun τ' => some (0, τ')) zg31 σ τ
  obtain ⟨hk6, Z, RS, T, now, c, t, ⟨⟨hZC, hZM, hB, h0, hz6⟩, hJ⟩, hK, hu, hT, hTo, hnow, ht⟩ := id hI
  obtain ⟨b, b1, b2, b3⟩ := zArZ (σ := σ) (τ := τ) hZC hZM hB x1
  have hin : ∃ p : Bool, f_X9_setWindow τ x1 x2 x3 = f_X9_setWindow_33 τ (zb p) (zb b) x1 x2 x3 ∧ (p = true ↔ ¬ x2 < 0 ∧ ¬ x3 < x2 ∧ x3 ≤ 10000) := by
    unfold f_X9_setWindow f_X9_setWindow_32
    rw [b2, zbd_s, z9inb, z9inb, zbd_s]
    by_cases c1 : x2 < 0
    · rw [decide_eq_true c1]
      exact ⟨false, rfl, fun h => (nomatch h), fun h => absurd c1 h.1⟩
    · rw [decide_eq_false c1]
      by_cases c2 : x3 < x2
      · rw [decide_eq_true c2]
        refine ⟨false, ?_, fun h => (nomatch h), fun h => absurd c2 h.2.1⟩
        by_cases c3 : 10000 < x2
        · rw [decide_eq_true c3]; rfl
        · rw [decide_eq_false c3]; rfl
      · rw [decide_eq_false c2]
        by_cases c4 : 10000 < x3
        · rw [decide_eq_true c4]
          refine ⟨false, ?_, fun h => (nomatch h), fun h => absurd c4 (Int32.not_lt.mpr h.2.2)⟩
          by_cases c3 : 10000 < x2
          · rw [decide_eq_true c3]; rfl
          · rw [decide_eq_false c3]; rfl
        · rw [decide_eq_false c4]
          have c3 : ¬ 10000 < x2 := Int32.not_lt.mpr (Int32.le_trans (Int32.not_lt.mp c2) (Int32.not_lt.mp c4))
          rw [decide_eq_false c3]
          exact ⟨true, rfl, fun _ => ⟨c1, c2, Int32.not_lt.mp c4⟩, fun _ => rfl⟩
  obtain ⟨p, p1, p2⟩ := hin
  rw [p1]
  unfold f_X8_setWindow f_X8_setWindow_21 f_X9_setWindow_33
  rw [b1, z9as2, zbd_s]
  simp only [zlt_e]
  cases b with
  | false => exact zRef hI hk rfl rfl zn3 zn1 (fun _ => rfl)
  | true =>
    obtain ⟨z, hz, e⟩ := b3 rfl
    have h6 := hB.1
    rw [if_pos (show true = true from rfl), zbx_0, e]
    have bad : p = false → zSimC kk (if x2 < 0 then some (1, 0, σ) else if x3 < x2 then some (1, 0, σ) else if x3 ≤ 10000 then zt_bd (f_X7_at σ (nI z)) fun z8 => zt_gd (decide (zt_kd z8 = 5)) <| some (0, 0, zt_st (zt_st σ z8 7 x2) z8 8 x3) else some (1, 0, σ)) (zt_bd (if zb (true && p) = 0 then some (zt_st τ 94 0 (if true = true then if p = true then 0 else 2 else 1)) else zt_gd (zt_gI (nI z) 6) <| zt_gd (zt_gI (nI z) 6) <| some (zt_st (zt_st (zt_st τ 94 0 (if true = true then if p = true then 0 else 2 else 1)) 101 (nI z).toNatClampNeg x2) 102 (nI z).toNatClampNeg x3)) fun τ' => some (0, τ')) zg31 σ τ := fun h => by
      have h2 : ¬ (¬ x2 < 0 ∧ ¬ x3 < x2 ∧ x3 ≤ 10000) := fun q => by rw [p2.mpr q] at h; cases h
      subst h
      refine zRef (e := 1) (v := 0) (x := 2) hI hk ?_ rfl zn1 zn2 (fun _ => rfl)
      by_cases c1 : x2 < 0
      · rw [if_pos c1]
      · rw [if_neg c1]
        by_cases c2 : x3 < x2
        · rw [if_pos c2]
        · rw [if_neg c2, if_neg (fun c3 => h2 ⟨c1, c2, c3⟩)]
    cases p with
    | false => exact bad rfl
    | true =>
      obtain ⟨q1, q2, q3⟩ := p2.mp rfl
      rw [if_neg q1, if_neg q2, if_pos q3, z3at hZC hB hz, zbd_s, zgd_d (zkd5 z (by omega)), if_neg (show ¬ zb (true && true) = 0 by decide), zgd_i (by omega) (by decide), zgd_i (by omega) (by decide), nI_clamp (by omega), zbd_s]
      refine zSuc (v := 0) rfl rfl ?_ (zINV_z (z := z) hI hk (by omega) (fun a h => (zst_o h).trans (zst_o h)) ((zst_j (by decide)).trans (zst_j (by decide))) (fun a h q => (zst_o (by omega)).trans ((zst_o (by omega)).trans (zst_o h))) (fun j h => (zst_2 (by omega)).trans ((zst_2 (by omega)).trans (zst_j h))) (fun i hne => ⟨fun a _ _ _ => (zst_2 (by omega)).trans ((zst_2 (by omega)).trans (zst_2 (by omega))), (zst_2 (by omega)).trans ((zst_2 (by omega)).trans (zst_2 (by omega))), (zst_2 (by omega)).trans ((zst_2 (by omega)).trans (zst_2 (by omega)))⟩) (fun f => ?_)) (fun a h => (zst_o (by omega)).trans (zst_o (by omega))) (fun a h => (zst_o (by omega)).trans ((zst_o (by omega)).trans (zst_o (by omega))))
      · rw [zst_o (by decide), zst_o (by decide)]; exact zst_s
      · obtain ⟨⟨lf, f0, f1, f2⟩, ⟨se, g0, g1, g2⟩, k1, k2, k3, k4, k5, k6, k7, k8⟩ := f
        have jo : ∀ a, a < 94 ∨ 94 < a → a ≠ 101 → a ≠ 102 → zt_st (zt_st (zt_st τ 94 0 (if true = true then if true = true then 0 else 2 else 1)) 101 z x2) 102 z x3 a = τ a := fun a h1 h2 h3 => (zst_o h3).trans ((zst_o h2).trans (zst_o (by omega)))
        have js : ∀ j, j ≠ 7 → j ≠ 8 → zt_st (zt_st σ (3 + 11 * z) 7 x2) (3 + 11 * z) 8 x3 (3 + 11 * z) j = σ (3 + 11 * z) j := fun j h1 h2 => (zst_j h2).trans (zst_j h1)
        refine ⟨⟨lf, f0, (js 1 (by decide) (by decide)).trans f1, by rw [jo 96 (by omega) (by decide) (by decide)]; exact f2⟩, ⟨se, g0, (js 2 (by decide) (by decide)).trans g1, by rw [jo 97 (by omega) (by decide) (by decide)]; exact g2⟩, ?_, ?_, ?_, ?_, ?_, ?_, ?_, ?_⟩
        · rw [js 3 (by decide) (by decide), jo 98 (by omega) (by decide) (by decide)]; exact k1
        · rw [jo 98 (by omega) (by decide) (by decide)]; exact k2
        · rw [js 4 (by decide) (by decide), jo 99 (by omega) (by decide) (by decide)]; exact k3
        · rw [jo 99 (by omega) (by decide) (by decide)]; exact k4
        · rw [js 5 (by decide) (by decide), jo 100 (by omega) (by decide) (by decide)]; exact k5
        · rw [js 6 (by decide) (by decide), jo 100 (by omega) (by decide) (by decide)]; exact k6
        · rw [zst_j (by decide), zst_s, zst_o (show 101 ≠ 102 by decide), zst_s]
        · rw [zst_s, zst_s]
