/-! keys, the anchor, time, in both -/
theorem zc_setKey {kk : Nat} (hk : kk < 600) (x1 x2 x3 : Int32) : zSim kk (fun σ => f_X8_setKey σ x1 x2 x3) (fun τ => f_X9_setKey τ x1 x2 x3) zg31 := by
  intro σ τ hI
  show zSimC kk (f_X8_setKey σ x1 x2 x3) (f_X9_setKey τ x1 x2 x3) zg31 σ τ
  obtain ⟨hk6, Z, RS, T, now, c, t, ⟨⟨hZC, hZM, hB, h0, hz6⟩, hJ⟩, hK, hu, hT, hTo, hnow, ht⟩ := id hI
  obtain ⟨b, b1, b2, b3⟩ := zArZ (σ := σ) (τ := τ) hZC hZM hB x1
  obtain ⟨y, y1, y2⟩ := zArK x3
  have e9 : f_X9_setKey τ x1 x2 x3 = f_X9_setKey_30 τ (zb ((!(decide (x2 < 0)) && !(decide (1 < x2))) && y)) (zb b) x1 x2 x3 := by
    unfold f_X9_setKey f_X9_setKey_29
    rw [b2, zbd_s, z9inb, zbd_s, y2]
    cases (!(decide (x2 < 0)) && !(decide (1 < x2))) <;> cases y <;> rfl
  rw [e9]
  unfold f_X8_setKey f_X8_setKey_21 f_X9_setKey_30
  rw [b1, z9as2, zbd_s]
  simp only [zlt_e]
  cases b with
  | false => exact zRef hI hk rfl rfl zn3 zn1 (fun _ => rfl)
  | true =>
    obtain ⟨z, hz, e⟩ := b3 rfl
    have h6 := hB.1
    rw [if_pos (show true = true from rfl), zbx_0, e]
    by_cases c1 : x2 < 0
    · rw [if_pos c1, decide_eq_true c1]
      exact zRef hI hk rfl rfl zn1 zn2 (fun _ => rfl)
    · rw [if_neg c1, decide_eq_false c1]
      by_cases c2 : 1 < x2
      · rw [if_pos c2, decide_eq_true c2]
        exact zRef hI hk rfl rfl zn1 zn2 (fun _ => rfl)
      · rw [if_neg c2, decide_eq_false c2, y1, zbd_s]
        cases y with
        | false => exact zRef hI hk rfl rfl zn1 zn2 (fun _ => rfl)
        | true =>
          obtain ⟨l, hl, el⟩ := zAr (x := x2) (m := 1) (by decide) (by rw [decide_eq_false c1, decide_eq_false (show ¬ nI 1 < x2 from c2)]; rfl)
          rw [if_neg (show ¬ zb true = 0 by decide), z3at hZC hB hz, zbd_s, zgd_d (zkd5 z (by omega)), show (if true = true then if (!false && !false && true) = true then (0 : Int32) else 2 else 1) = 0 from rfl, if_neg (show ¬ zb (true && (!false && !false && true)) = 0 by decide), el, zl_2, pk_mul, nI_add, zgd_i (by omega) (by decide), zgd_i (by omega) (by decide), nI_clamp (by omega), zst_o (show 100 ≠ 94 by decide)]
          have F := (hz6 z (by omega)).2.2
          have k5 := F.2.2.2.2.2.2.1
          have k6 := F.2.2.2.2.2.2.2.1
          have E : f_X6_changeKey σ (3 + 11 * z) (nI l) x3 = some (τ 100 (2 * z + l), zt_st σ (3 + 11 * z) (5 + l) x3) := by
            unfold f_X6_changeKey f_X6_changeKey_15
            have hl01 : l = 0 ∨ l = 1 := by omega
            rcases hl01 with q | q <;> subst q
            · rw [if_pos (show nI 0 = 0 from rfl), if_pos (show nI 0 = 0 from rfl), k5, zlt_e]; rfl
            · rw [if_neg (show ¬ nI 1 = 0 by decide), if_neg (show ¬ nI 1 = 0 by decide), k6, zlt_e]
          rw [E, zbd_s]
          refine zSuc (v := τ 100 (2 * z + l)) (σ' := zt_st σ (3 + 11 * z) (5 + l) x3) rfl rfl ?_ (zINV_z (z := z) hI hk (by omega) (fun a h => zst_o h) (zst_j (by omega)) (fun a h q => (zst_o (by omega)).trans (zst_o h)) (fun j h => (zst_2 (by omega)).trans (zst_j h)) (fun i hne => ⟨fun a _ _ h => (zst_2 (by omega)).trans (zst_2 (by omega)), (zst_2 (by omega)).trans (zst_2 (by omega)), (zst_2 (by omega)).trans (zst_2 (by omega))⟩) (fun f => ?_)) (fun a h => zst_o (by omega)) (fun a h => (zst_o (by omega)).trans (zst_o (by omega)))
          · rw [zst_o (by decide)]; exact zst_s
          · obtain ⟨⟨lf, f0, f1, f2⟩, ⟨se, g0, g1, g2⟩, k1, k2, k3, k4, k5, k6, k7, k8⟩ := f
            have jo : ∀ a, a < 94 ∨ 94 < a → a ≠ 100 → zt_st (zt_st τ 94 0 0) 100 (2 * z + l) x3 a = τ a := fun a h1 h2 => (zst_o h2).trans (zst_o (by omega))
            have js : ∀ j, j ≠ 5 + l → zt_st σ (3 + 11 * z) (5 + l) x3 (3 + 11 * z) j = σ (3 + 11 * z) j := fun j h => zst_j h
            have j100 : ∀ j, zt_st (zt_st τ 94 0 0) 100 (2 * z + l) x3 100 j = if j = 2 * z + l then x3 else τ 100 j := fun j => zst_if.trans (by rw [zst_o (by decide)])
            have jsv : ∀ j, zt_st σ (3 + 11 * z) (5 + l) x3 (3 + 11 * z) j = if j = 5 + l then x3 else σ (3 + 11 * z) j := fun j => zst_if
            refine ⟨⟨lf, f0, (js 1 (by omega)).trans f1, by rw [jo 96 (by omega) (by decide)]; exact f2⟩, ⟨se, g0, (js 2 (by omega)).trans g1, by rw [jo 97 (by omega) (by decide)]; exact g2⟩, ?_, ?_, ?_, ?_, ?_, ?_, ?_, ?_⟩
            · rw [js 3 (by omega), jo 98 (by omega) (by decide)]; exact k1
            · rw [jo 98 (by omega) (by decide)]; exact k2
            · rw [js 4 (by omega), jo 99 (by omega) (by decide)]; exact k3
            · rw [jo 99 (by omega) (by decide)]; exact k4
            · rw [jsv, j100]
              by_cases q : l = 0
              · rw [if_pos (by omega), if_pos (by omega)]
              · rw [if_neg (by omega), if_neg (by omega)]; exact k5
            · rw [jsv, j100]
              by_cases q : l = 1
              · rw [if_pos (by omega), if_pos (by omega)]
              · rw [if_neg (by omega), if_neg (by omega)]; exact k6
            · rw [js 7 (by omega), jo 101 (by omega) (by decide)]; exact k7
            · rw [js 8 (by omega), jo 102 (by omega) (by decide)]; exact k8
theorem zc_setAnchor {kk : Nat} (hk : kk < 600) (x1 : Int32) : zSim kk (fun σ => f_X8_setAnchor σ x1) (fun τ => f_X9_setAnchor τ x1) zg1 := by
  intro σ τ hI
  show zSimC kk (f_X8_setAnchor σ x1) (f_X9_setAnchor τ x1) zg1 σ τ
  obtain ⟨hk6, Z, RS, T, now, c, t, ⟨a1, a2, a3, a4, a5⟩, hK, hu, hT, hTo, hnow, ht⟩ := id hI
  obtain ⟨y, y1, y2⟩ := zArK x1
  unfold f_X8_setAnchor f_X9_setAnchor
  rw [y1, zbd_s, y2, zbd_s, z9as1, zbd_s]
  simp only [zlt_e]
  cases y with
  | false => exact zRef hI hk rfl rfl zn1 zn1 (fun _ => rfl)
  | true =>
    rw [if_neg (show ¬ zb true = 0 by decide), if_neg (show ¬ zb true = 0 by decide), zst_j (show 11 ≠ 0 by decide), a4]
    refine zSuc rfl rfl ((zst_j (by decide)).trans zst_s) ⟨hk, Z, RS, T, now, c, t, ⟨zIW_f a1 (fun a h => zst_o (by omega)) (fun a _ _ => (zst_o (by omega)).trans (zst_o (by omega))) ((zst_j (by decide)).trans (zst_j (by decide))), (zst_j (by decide)).trans a2, ((zst_j (by decide)).trans (zst_j (by decide))).trans a3, zst_s.trans zst_s.symm, a5⟩, zIK_f hK (fun a _ _ => zst_o (by omega)) (fun a _ _ => (zst_o (by omega)).trans (zst_o (by omega))) ((zst_j (by decide)).trans (zst_j (by decide))), by rw [zst_o (by decide), zst_o (by decide), zst_o (by decide)]; exact hu, zTT_f hT (fun a _ _ => zst_o (by omega)) (fun a _ _ => (zst_o (by omega)).trans (zst_o (by omega))) ((zst_j (by decide)).trans (zst_j (by decide))), zTo_f hTo (zst_o (by decide)) ((zst_o (by decide)).trans (zst_o (by decide))), by omega, by omega⟩ (fun a h => zst_o (by omega)) (fun a h => (zst_o (by omega)).trans (zst_o (by omega)))
theorem zc_pass {kk : Nat} (hk : kk < 600) (x1 : Int32) : zSim kk (fun σ => f_X8_pass σ x1) (fun τ => f_X9_pass τ x1) zg1 := by
  intro σ τ hI
  show zSimC kk (f_X8_pass σ x1) (f_X9_pass τ x1) zg1 σ τ
  obtain ⟨hk6, Z, RS, T, now, c, t, ⟨a1, a2, a3, a4, a5⟩, hK, hu, hT, hTo, hnow, ht⟩ := id hI
  unfold f_X8_pass f_X8_pass_11 f_X9_pass
  rw [z9inb, zbd_s, z9as1, zbd_s]
  simp only [zlt_e]
  by_cases c1 : x1 < 1
  · rw [if_pos c1, decide_eq_true c1]
    exact zRef hI hk rfl rfl zn1 zn1 (fun _ => rfl)
  · rw [if_neg c1, decide_eq_false c1]
    by_cases c2 : x1 ≤ 100
    · have c0 : ¬ x1 < 0 := fun q => c1 (by
        rw [Int32.lt_iff_toInt_lt] at q ⊢
        have e0 : (0 : Int32).toInt = 0 := rfl
        have e1 : (1 : Int32).toInt = 1 := rfl
        omega)
      obtain ⟨n, hn, e⟩ := zAr (x := x1) (m := 100) (by decide) (by rw [decide_eq_false c0, decide_eq_false (show ¬ nI 100 < x1 from Int32.not_lt.mpr c2)]; rfl)
      rw [if_pos c2, decide_eq_false (Int32.not_lt.mpr c2), show (if (!false && !false) = true then (0 : Int32) else 1) = 0 from rfl, if_neg (show ¬ zb (!false && !false) = 0 by decide), e, zst_s, zst_s, zst_j (show 1 ≠ 0 by decide), a2, a3, nI_add]
      refine zSuc rfl rfl ((zst_j (by decide)).trans zst_s) ⟨hk, Z, RS, T, now + n, c, t, ⟨zIW_f a1 (fun a h => zst_o (by omega)) (fun a _ _ => (zst_o (by omega)).trans (zst_o (by omega))) ((zst_j (by decide)).trans (zst_j (by decide))), zst_s, zst_s, (zst_j (by decide)).trans (a4.trans ((zst_j (by decide)).trans (zst_j (by decide))).symm), by omega⟩, zIK_n (zIK_f hK (fun a _ _ => zst_o (by omega)) (fun a _ _ => (zst_o (by omega)).trans (zst_o (by omega))) ((zst_j (by decide)).trans (zst_j (by decide)))) (by omega), by rw [zst_o (by decide), zst_o (by decide), zst_o (by decide)]; exact hu, zTT_f hT (fun a _ _ => zst_o (by omega)) (fun a _ _ => (zst_o (by omega)).trans (zst_o (by omega))) ((zst_j (by decide)).trans (zst_j (by decide))), zTo_f hTo (zst_o (by decide)) ((zst_o (by decide)).trans (zst_o (by decide))), by omega, by omega⟩ (fun a h => zst_o (by omega)) (fun a h => (zst_o (by omega)).trans (zst_o (by omega)))
    · rw [if_neg c2, decide_eq_true (Int32.not_le.mp c2)]
      exact zRef hI hk rfl rfl zn1 zn1 (fun _ => rfl)
theorem zForg {kk : Nat} (hk : kk < 600) {σ τ : zt_St} (hI : zINV kk σ τ) : ∃ v σ' τ', f_X8_forget σ = some (v, σ') ∧ f_X9_forget τ = some (v, τ') ∧ zINV (kk + 1) σ' τ' ∧ (∀ a, 94 ≤ a → σ' a = σ a) ∧ (∀ a, a < 94 → τ' a = τ a) := by
  obtain ⟨hk6, Z, RS, T, now, c, t, ⟨a1, a2, a3, a4, a5⟩, hK, hu, hT, hTo, hnow, ht⟩ := hI
  obtain ⟨v, σ', τ', e1, e2, e3, e4, e5, e6, e7, e8⟩ := zForget hK (by omega) a2 a3 hu
  refine ⟨v, σ', τ', ?_, e2, ⟨hk, Z, RS, T, now, 0, t, ⟨zIW_f a1 (fun a h => e5 a (by omega) (by omega)) (fun a _ _ => e6 a (by omega) (by omega)) (e7 2 (by decide) (by decide)), by rw [e5 80 (by decide) (by decide)]; exact a2, (e7 1 (by decide) (by decide)).trans a3, by rw [e5 80 (by decide) (by decide), e7 11 (by decide) (by decide)]; exact a4, a5⟩, e3, e4, zTT_f hT (fun a _ _ => e5 a (by omega) (by omega)) (fun a _ _ => e6 a (by omega) (by omega)) (e7 17 (by decide) (by decide)), zTo_f hTo (e5 92 (by decide) (by decide)) (e6 121 (by decide) (by decide)), by omega, by omega⟩, fun a h => e5 a (by omega) (by omega), fun a h => e6 a (by omega) (by omega)⟩
  unfold f_X8_forget
  rw [e1]
  rfl
theorem zc_forget {kk : Nat} (hk : kk < 600) {σ : zt_St} (hI : zINV kk σ σ) : ∃ v σ1 σ2, f_X8_forget σ = some (v, σ1) ∧ f_X9_forget σ1 = some (v, σ2) ∧ zINV (kk + 1) σ2 σ2 := by
  obtain ⟨v, σ', _, e1, _, _, e4, _⟩ := zForg hk hI
  have hI1 : zINV kk σ σ' := zINV_f hI (fun _ _ => rfl) rfl rfl (fun a q r => e4 a (by omega)) (fun j _ => by rw [e4 94 (by decide)])
  obtain ⟨v2, σ2, τ', d1, d2, d3, d4, d5⟩ := zForg hk hI1
  rw [e1] at d1
  have z := Option.some.inj d1
  have z1 := (Prod.mk.inj z).1
  have z2 := (Prod.mk.inj z).2
  subst z1 z2
  exact ⟨v, σ', τ', e1, d2, zINV_f d3 (fun a q => d5 a (by omega)) (by rw [d5 80 (by decide)]) (by rw [d5 80 (by decide)]) (fun _ _ _ => rfl) (fun _ _ => rfl)⟩
