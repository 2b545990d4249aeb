/-! calls that only read, in both -/
def zSimC (kk : Nat) (rc : Option (Int32 × Int32 × zt_St)) (r9 : Option (Int32 × zt_St)) (g : Int32 → zt_St → Option (Int32 × zt_St)) (σ τ : zt_St) : Prop := ∃ e v σ' w τ', rc = some (e, v, σ') ∧ r9 = some (w, τ') ∧ ((e = 0 ∧ τ' 94 0 = 0 ∧ v = w) ∨ (¬ e = 0 ∧ (∀ s, g e s = some (τ' 94 0, s)) ∧ ¬ τ' 94 0 = 0)) ∧ zINV (kk + 1) σ' τ' ∧ (∀ a, 94 ≤ a → σ' a = σ a) ∧ (∀ a, a < 94 ∨ a = 122 → τ' a = τ a)
theorem zRef {kk : Nat} {rc : Option (Int32 × Int32 × zt_St)} {r9 : Option (Int32 × zt_St)} {g : Int32 → zt_St → Option (Int32 × zt_St)} {σ τ : zt_St} {e v w x : Int32} (hI : zINV kk σ τ) (hk : kk < 600) (h1 : rc = some (e, v, σ)) (h2 : r9 = some (w, zt_st τ 94 0 x)) (he : ¬ e = 0) (hx : ¬ x = 0) (hg : ∀ s, g e s = some (x, s)) : zSimC kk rc r9 g σ τ :=
  ⟨e, v, σ, w, _, h1, h2, Or.inr ⟨he, fun s => (hg s).trans (by rw [zst_s]), by rw [zst_s]; exact hx⟩, zINV_th hI hk, fun _ _ => rfl, fun a h => zst_o (by omega)⟩
theorem zRea {kk : Nat} {rc : Option (Int32 × Int32 × zt_St)} {r9 : Option (Int32 × zt_St)} {g : Int32 → zt_St → Option (Int32 × zt_St)} {σ τ : zt_St} {v : Int32} (hI : zINV kk σ τ) (hk : kk < 600) (h1 : rc = some (0, v, σ)) (h2 : r9 = some (v, zt_st τ 94 0 0)) : zSimC kk rc r9 g σ τ :=
  ⟨0, v, σ, v, _, h1, h2, Or.inl ⟨rfl, zst_s, rfl⟩, zINV_th hI hk, fun _ _ => rfl, fun a h => zst_o (by omega)⟩
theorem zSuc {kk : Nat} {rc : Option (Int32 × Int32 × zt_St)} {r9 : Option (Int32 × zt_St)} {g : Int32 → zt_St → Option (Int32 × zt_St)} {σ τ σ' τ' : zt_St} {v : Int32} (h1 : rc = some (0, v, σ')) (h2 : r9 = some (v, τ')) (h3 : τ' 94 0 = 0) (h4 : zINV (kk + 1) σ' τ') (h5 : ∀ a, 94 ≤ a → σ' a = σ a) (h6 : ∀ a, a < 94 ∨ a = 122 → τ' a = τ a) : zSimC kk rc r9 g σ τ :=
  ⟨0, v, σ', v, τ', h1, h2, Or.inl ⟨rfl, h3, rfl⟩, h4, h5, h6⟩
def zg31 (e1 : Int32) (σ2 : zt_St) : Option (Int32 × zt_St) := if e1 = 3 then some (1, σ2) else if e1 = 1 then some (2, σ2) else none
def zg12 (e1 : Int32) (σ2 : zt_St) : Option (Int32 × zt_St) := if e1 = 1 then some (1, σ2) else if e1 = 2 then some (2, σ2) else none
def zg1 (e1 : Int32) (σ2 : zt_St) : Option (Int32 × zt_St) := if e1 = 1 then some (1, σ2) else none
def zg3 (e1 : Int32) (σ2 : zt_St) : Option (Int32 × zt_St) := if e1 = 3 then some (1, σ2) else none
def zg312 (e1 : Int32) (σ2 : zt_St) : Option (Int32 × zt_St) := if e1 = 3 then some (1, σ2) else if e1 = 1 then some (2, σ2) else if e1 = 2 then some (3, σ2) else none
theorem zn1 : ¬ (1 : Int32) = 0 := by decide
theorem zn2 : ¬ (2 : Int32) = 0 := by decide
theorem zn3 : ¬ (3 : Int32) = 0 := by decide
theorem zCps {σ : zt_St} {x y : Int32} {a b : Bool} (h1 : f_X3_isPlace x = some (zb a)) (h2 : f_X8_isSort y = some (zb b)) : f_X8_checkPlaceAndSort σ x y = some (if (a && b) = true then 0 else 1, 0, σ) := by
  unfold f_X8_checkPlaceAndSort f_X8_checkPlaceAndSort_14
  rw [h1, h2]
  cases a <;> cases b <;> rfl
theorem zCns {σ : zt_St} {x y : Int32} {a b : Bool} (h1 : f_X3_isName x = some (zb a)) (h2 : f_X8_isSort y = some (zb b)) : f_X8_checkNameAndSort σ x y = some (if (a && b) = true then 0 else 1, 0, σ) := by
  unfold f_X8_checkNameAndSort f_X8_checkNameAndSort_14
  rw [h1, h2]
  cases a <;> cases b <;> rfl
theorem zc_zoneHas {kk : Nat} (hk : kk < 600) (x1 x2 : Int32) : zSim kk (fun σ => f_X8_zoneHas σ x1 x2) (fun τ => f_X9_zoneHas τ x1 x2) zg31 := by
  intro σ τ hI
  show zSimC kk (f_X8_zoneHas σ x1 x2) (f_X9_zoneHas τ x1 x2) zg31 σ τ
  obtain ⟨hk6, Z, RS, T, now, c, t, ⟨⟨hZC, hZM, hB, h0, hz6⟩, hJ⟩, hK, hu, hT, hTo, hnow, ht⟩ := id hI
  obtain ⟨b, b1, b2, b3⟩ := zArZ (σ := σ) (τ := τ) hZC hZM hB x1
  unfold f_X8_zoneHas f_X8_zoneHas_14 f_X9_zoneHas
  rw [b1, b2, zbd_s, z9inb, zbd_s, z9as2, zbd_s]
  simp only [zlt_e]
  cases b with
  | false => exact zRef hI hk rfl rfl zn3 zn1 (fun _ => rfl)
  | true =>
    obtain ⟨z, hz, e⟩ := b3 rfl
    have h6 := hB.1
    rw [if_pos (show true = true from rfl), zbx_0, e]
    by_cases c1 : x2 < 0
    · rw [if_pos c1, decide_eq_true c1]
      exact zRef hI hk rfl rfl zn1 zn2 (fun _ => rfl)
    · rw [if_neg c1, decide_eq_false c1]
      by_cases c2 : x2 ≤ 4
      · rw [if_pos c2, decide_eq_false (Int32.not_lt.mpr c2), z3at hZC hB hz, zbd_s, zgd_d (zkd5 z (by omega))]
        have hM' : zRM (zt_st τ 94 0 0) z (RS z) := zRM_f (hz6 z (by omega)).1.2.2.1 (fun c _ _ => zst_o (by omega))
        obtain ⟨⟨r1, r2, r3, r4⟩, ⟨o1, o2, o3⟩, ⟨lf, l0, l1, l2⟩, ⟨se, s0, s1, s2⟩, f3, f4, f5, f6, f7⟩ := hz6 z (by omega)
        have ha2 : Z.2 z < 10000 := znm_lt (hB.2.2 z hz)
        have E : f_X6_detail σ (3 + 11 * z) x2 = some (if x2 = 0 then nI (Z.2 z) else if x2 = 1 then nI se else if x2 = 2 then nI (RS z).1 else if x2 = 3 then τ 98 z else nI (zso (RS z) (Z.2 z) (RS z).1 0)) := by
          unfold f_X6_detail
          rw [hZC.2 z hz, s1, r1.1, f3, z3con (zK1 (by omega) o1.1) r1 o1.2.1 (hZC.2 z hz) ha2 (zgv_u o1.2.2.2.2), zbd_s]
          by_cases d0 : x2 = 0
          · rw [if_pos d0, if_pos d0]
          · rw [if_neg d0, if_neg d0]
            by_cases d1 : x2 = 1
            · rw [if_pos d1, if_pos d1]
            · rw [if_neg d1, if_neg d1]
              by_cases d2 : x2 = 2
              · rw [if_pos d2, if_pos d2]
              · rw [if_neg d2, if_neg d2]
                by_cases d3 : x2 = 3
                · rw [if_pos d3, if_pos d3]
                · rw [if_neg d3, if_neg d3]
        rw [E, zbd_s]
        refine zRea hI hk rfl ?_
        rw [show (if true = true then if (!false && !false) = true then (0 : Int32) else 2 else 1) = 0 from rfl, if_neg (show ¬ zb (true && (!false && !false)) = 0 by decide), zst_o (show 95 ≠ 94 by decide), zst_o (show 97 ≠ 94 by decide), zst_o (show 98 ≠ 94 by decide), zst_o (show 103 ≠ 94 by decide)]
        rw [z9nm0 (z := z) (by omega) (by have := o1.1; omega) hM' o1.2.1 (by rw [zst_o (by decide)]; exact hZM.2 z hz) ha2 (zgv_u o1.2.2.2.2), zbd_s, zgd_i (by omega) (by decide), zgd_i (by omega) (by decide), zgd_i (by omega) (by decide), zgd_i (by omega) (by decide), nI_clamp (by omega), hZM.2 z hz, s2, r3.1]
        by_cases d0 : x2 = 0
        · rw [if_pos d0, if_pos d0]
        · rw [if_neg d0, if_neg d0]
          by_cases d1 : x2 = 1
          · rw [if_pos d1, if_pos d1]
          · rw [if_neg d1, if_neg d1]
            by_cases d2 : x2 = 2
            · rw [if_pos d2, if_pos d2]
            · rw [if_neg d2, if_neg d2]
              by_cases d3 : x2 = 3
              · rw [if_pos d3, if_pos d3]
              · rw [if_neg d3, if_neg d3]
      · rw [if_neg c2, decide_eq_true (Int32.not_le.mp c2)]
        exact zRef hI hk rfl rfl zn1 zn2 (fun _ => rfl)
theorem zc_record {kk : Nat} (hk : kk < 600) (x1 x2 x3 : Int32) : zSim kk (fun σ => f_X8_record σ x1 x2 x3) (fun τ => f_X9_record τ x1 x2 x3) zg31 := by
  intro σ τ hI
  show zSimC kk (f_X8_record σ x1 x2 x3) (f_X9_record τ x1 x2 x3) zg31 σ τ
  obtain ⟨hk6, Z, RS, T, now, c, t, ⟨⟨hZC, hZM, hB, h0, hz6⟩, hJ⟩, hK, hu, hT, hTo, hnow, ht⟩ := id hI
  obtain ⟨b, b1, b2, b3⟩ := zArZ (σ := σ) (τ := τ) hZC hZM hB x1
  obtain ⟨p, p1, p2, p3⟩ := zArP x2
  obtain ⟨s, s1, s2, s3⟩ := zArS x3
  have e9 : f_X9_record τ x1 x2 x3 = f_X9_record_27 τ (zb (p && s)) (zb b) x1 x2 x3 := by
    unfold f_X9_record f_X9_record_26
    rw [b2, p2, s2]
    cases p <;> cases s <;> rfl
  rw [e9]
  unfold f_X8_record f_X9_record_27
  rw [b1, z9as2, zbd_s]
  simp only [zlt_e]
  cases b with
  | false => exact zRef hI hk rfl rfl zn3 zn1 (fun _ => rfl)
  | true =>
    obtain ⟨z, hz, e⟩ := b3 rfl
    have h6 := hB.1
    rw [if_pos (show true = true from rfl), zbx_0, zCps p1 s1, e]
    by_cases c1 : (p && s) = true
    · rw [c1, if_pos (show true = true from rfl), zbx_0, z3at hZC hB hz, zbd_s, zgd_d (zkd5 z (by omega))]
      obtain ⟨⟨r1, r2, r3, r4⟩, ⟨o1, o2, o3⟩, _⟩ := hz6 z (by omega)
      have h20 := o1.1
      have hM' : zRM (zt_st τ 94 0 0) z (RS z) := zRM_f r3 (fun c _ _ => zst_o (by omega))
      rw [z3row (zK1 (by omega) o1.1) r1, zbd_s, z3nmA (zK1 (by omega) o1.1) r1 (fun j q => (zrw_lt q).1), zbd_s]
      refine zRea hI hk rfl ?_
      show (if zb (true && true) = 0 then _ else zt_bd (f_X9_find (zt_st τ 94 0 0) (nI z) x2 x3) _) = _
      rw [if_neg (show ¬ zb (true && true) = 0 by decide), z9find ⟨by omega, by omega⟩ hM', zbd_s]
      cases hq : zrw (RS z) x2 x3 with
      | none => rw [if_pos (show oI (32 * z) none = -1 from rfl)]; rfl
      | some l =>
        obtain ⟨q1, _, _⟩ := zrw_lt hq
        rw [if_neg (oI_1 (by omega))]
        show zt_gd (zt_gI (nI (32 * z + l)) 416) (some (zt_st τ 94 0 0 106 (nI (32 * z + l)).toNatClampNeg, zt_st τ 94 0 0)) = some (nI (zV (RS z) l), zt_st τ 94 0 0)
        rw [zgd_i (by omega) (by decide), nI_clamp (by omega), (hM'.2 l q1).2.2.1]
    · rw [if_neg c1, Bool.eq_false_iff.mpr c1]
      exact zRef hI hk rfl rfl zn1 zn2 (fun _ => rfl)
theorem zc_told {kk : Nat} (hk : kk < 600) (x1 : Int32) : zSim kk (fun σ => f_X8_told σ x1) (fun τ => f_X9_told τ x1) zg1 := by
  intro σ τ hI
  show zSimC kk (f_X8_told σ x1) (f_X9_told τ x1) zg1 σ τ
  obtain ⟨hk6, Z, RS, T, now, c, t, hJ, hK, hu, hT, hTo, hnow, ht⟩ := id hI
  unfold f_X8_told f_X8_told_9 f_X9_told
  rw [z9inb, zbd_s, z9as1, zbd_s]
  simp only [zlt_e]
  by_cases c1 : x1 < 0
  · rw [if_pos c1, decide_eq_true c1]
    exact zRef hI hk rfl rfl zn1 zn1 (fun _ => rfl)
  · rw [if_neg c1, decide_eq_false c1]
    by_cases c2 : x1 ≤ 4
    · obtain ⟨j, hj, e⟩ := zAr (x := x1) (m := 4) (by decide) (by rw [decide_eq_false c1, decide_eq_false (show ¬ nI 4 < x1 from Int32.not_lt.mpr c2)]; rfl)
      rw [if_pos c2, decide_eq_false (Int32.not_lt.mpr c2)]
      have E : f_X0_detail σ 92 x1 = some (τ 121 j) := by
        unfold f_X0_detail
        rcases hTo with ⟨a1, a2⟩ | ⟨a1, a2, a3, a4, a5, a6, a7⟩
        · rw [if_pos a1, a2 j (by omega)]
        · rw [if_neg a1, e]
          have hj4 : j = 0 ∨ j = 1 ∨ j = 2 ∨ j = 3 ∨ j = 4 := by omega
          rcases hj4 with q | q | q | q | q <;> subst q
          · rw [if_pos (show nI 0 = 0 from rfl), a2]
          · rw [if_neg (show ¬ nI 1 = 0 by decide), if_pos (show nI 1 = 1 from rfl), a3]
          · rw [if_neg (show ¬ nI 2 = 0 by decide), if_neg (show ¬ nI 2 = 1 by decide), if_pos (show nI 2 = 2 from rfl), a4]
          · rw [if_neg (show ¬ nI 3 = 0 by decide), if_neg (show ¬ nI 3 = 1 by decide), if_neg (show ¬ nI 3 = 2 by decide), if_pos (show nI 3 = 3 from rfl), a5]
          · rw [if_neg (show ¬ nI 4 = 0 by decide), if_neg (show ¬ nI 4 = 1 by decide), if_neg (show ¬ nI 4 = 2 by decide), if_neg (show ¬ nI 4 = 3 by decide), a6]
            rcases a7 with q | q <;> rw [q] <;> rfl
      rw [E, zbd_s]
      refine zRea hI hk rfl ?_
      show (if zb (!false && !false) = 0 then _ else zt_gd (zt_gI x1 5) (some (zt_st τ 94 0 0 121 x1.toNatClampNeg, zt_st τ 94 0 0))) = _
      rw [if_neg (show ¬ zb (!false && !false) = 0 by decide), e, zgd_i (by omega) (by decide), nI_clamp (by omega), zst_o (by decide)]
    · rw [if_neg c2, decide_eq_true (Int32.not_le.mp c2)]
      exact zRef hI hk rfl rfl zn1 zn1 (fun _ => rfl)
theorem zc_neighbour {kk : Nat} (hk : kk < 600) (x1 x2 : Int32) (beh : Bool) : zSim kk (fun σ => f_X8_neighbour σ x1 x2 (zb beh)) (fun τ => f_X9_neighbour τ x1 x2 (zb beh)) zg31 := by
  intro σ τ hI
  show zSimC kk (f_X8_neighbour σ x1 x2 (zb beh)) (f_X9_neighbour τ x1 x2 (zb beh)) zg31 σ τ
  obtain ⟨hk6, Z, RS, T, now, c, t, ⟨⟨hZC, hZM, hB, h0, hz6⟩, hJ⟩, hK, hu, hT, hTo, hnow, ht⟩ := id hI
  obtain ⟨b, b1, b2, b3⟩ := zArZ (σ := σ) (τ := τ) hZC hZM hB x1
  obtain ⟨p, p1, p2, p3⟩ := zArP x2
  unfold f_X8_neighbour f_X9_neighbour
  rw [b1, b2, zbd_s, p2, zbd_s, z9as2, zbd_s]
  simp only [zlt_e]
  cases b with
  | false => exact zRef hI hk rfl rfl zn3 zn1 (fun _ => rfl)
  | true =>
    obtain ⟨z, hz, e⟩ := b3 rfl
    have h6 := hB.1
    rw [if_pos (show true = true from rfl), zbx_0, p1, zbd_s, e]
    cases p with
    | false => exact zRef hI hk rfl rfl zn1 zn2 (fun _ => rfl)
    | true =>
      obtain ⟨n, en, hn⟩ := p3 rfl
      obtain ⟨⟨r1, r2, r3, r4⟩, ⟨o1, o2, o3⟩, _⟩ := hz6 z (by omega)
      have h20 := o1.1
      have ha2 : Z.2 z < 10000 := znm_lt (hB.2.2 z hz)
      have hM' : zRM (zt_st τ 94 0 0) z (RS z) := zRM_f r3 (fun c _ _ => zst_o (by omega))
      rw [if_neg (show ¬ zb true = 0 by decide), z3at hZC hB hz, zbd_s, zgd_d (zkd5 z (by omega)), en, z3nea (zK1 (by omega) o1.1) r1 o1.2.1 (hZC.2 z hz) ha2 (zpl_lt hn) (zgv_u o1.2.2.2.2), zbd_s]
      refine zRea hI hk rfl ?_
      exact z9nei (by omega) (by omega) hM' o1.2.1 (by rw [zst_o (by decide)]; exact hZM.2 z hz) ha2 (zpl_lt hn) (zgv_u o1.2.2.2.2)
