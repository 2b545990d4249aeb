/-! one step of a resolver: a zone that answers, in both -/
theorem zwr_o {σ : zt_St} {k e : Nat} {R : zR} {r : zAn} (h : e ≠ k) : zwr σ k R r e = σ e := by
  unfold zwr
  by_cases c : r.1 = 3
  · rw [if_pos c, zst_o h, zst_o h, zte_o h]
  · rw [if_neg c, zte_o h]
theorem zEA_G {τ τ1 : zt_St} (h : zEA τ τ1) : zGr τ τ1 := ⟨fun a q => h.1 a (by omega), fun j _ b c d => h.2 j b c d⟩
theorem zLive {rc : zRec} {σ τ : zt_St} {Z : Nat × (Nat → Nat)} {RS : Nat → zR} {now t c n s Q z j k : Nat} {R : zR} {aw tl o : Bool} {ld U tr : Int32} (hJ : zJ1 σ τ Z RS now) (hK : zIK σ τ c now t) (ht : t < 2 ^ 31) (hu : σ 90 = τ 113) (h5 : σ 80 5 = zb aw) (h6 : σ 80 6 = nI n) (h7 : σ 80 7 = nI s) (h10 : σ 80 10 = nI Q) (h12 : σ 80 12 = zb o) (h13 : σ 80 13 = tr) (hn : znm n = true) (hs : s < 5) (hz : z < Z.1) (hun : zun n (Z.2 z) = true) (hj : j < 12) (hk : zK k 20 R) (h91 : k + 4 < 80) (hC : zRC σ k R) (hM : zRM τ j R) (hO : zOK R (Z.2 z) Z) :
    ∃ σ5, (zt_bd (f_X6_answer σ (3 + 11 * z) k (nI n) (nI s) 91) fun σ16 => zt_bd (f_X5_keepPart σ16) fun σ18 => some σ18) = some σ5 ∧ zOut rc σ τ σ5 Z now (t + 1) n s Q aw tl o ld U (f_X9_resolves_231 rc τ (nI j) (nI s) (zb aw) (zb tl) (nI n) (nI Q) ld U (zb o) (nI z) tr) := by
  obtain ⟨hW, h3, h1, hanc, hnow⟩ := hJ
  obtain ⟨hZC, hZM, hB, h0, hz6⟩ := hW
  have h6B := hB.1
  obtain ⟨-, -, ⟨lf, hlf, l1, l2⟩, hF⟩ := hz6 z (by omega)
  have ha2 : Z.2 z < 10000 := znm_lt (hB.2.2 z hz)
  obtain ⟨hFS, hAL⟩ := zOKf hO
  have h20 := hO.1
  have A := z3ans (k4 := 91) hO.2.1 hFS hs (Or.inr (by omega)) ha2 hlf hk hC (hZC.2 z hz) l1 hn
  obtain ⟨τ1, B1, B2, B3⟩ := z9asks (t := j) (z := z) ⟨by omega, by omega⟩ hO.2.1 hFS hAL (by omega) ha2 hlf hs hM (hZM.2 z hz) l2 hn hun
  obtain ⟨p1, ⟨l, pl, pe⟩, p4, p3⟩ := zas_c (lf := lf) (s := s) (a := Z.2 z) hO.2.1 hFS hlf 9 1 n 50 hn (by omega) (by omega)
  generalize zas R (Z.2 z) lf s 9 1 n 50 = r at A B1 B3 p1 pe p4 p3
  have hG1 := zEA_G B2
  have hK1 : zIK (zwr σ 91 R r) τ1 c now t := zIK_f hK (fun a _ _ => zwr_o (by omega)) (fun a _ _ => B2.1 a (by omega)) (B2.2 24 (by decide) (by decide) (by decide))
  have w5 : zwr σ 91 R r 80 5 = zb aw := by rw [zwr_o (by decide)]; exact h5
  have w6 : zwr σ 91 R r 80 6 = nI n := by rw [zwr_o (by decide)]; exact h6
  have w7 : zwr σ 91 R r 80 7 = nI s := by rw [zwr_o (by decide)]; exact h7
  have w3 : zwr σ 91 R r 80 3 = nI now := by rw [zwr_o (by decide)]; exact h3
  have w10 : zwr σ 91 R r 80 10 = nI Q := by rw [zwr_o (by decide)]; exact h10
  have w12 : zwr σ 91 R r 80 12 = zb o := by rw [zwr_o (by decide)]; exact h12
  have w13 : zwr σ 91 R r 80 13 = tr := by rw [zwr_o (by decide)]; exact h13
  have w90 : zwr σ 91 R r 90 = τ1 113 := by rw [zwr_o (by decide), B2.1 113 (by decide)]; exact hu
  have q1 : τ1 94 1 = nI now := (B2.2 1 (by decide) (by decide) (by decide)).trans h1
  have hFr : zFr σ (zwr σ 91 R r) := zFr_k (fun a h => zwr_o (by omega))
  rw [A, zbd_s]
  unfold f_X9_resolves_231
  rw [if_neg (zm1 (by omega)), B1, zbd_s]
  simp only [zlt_e]
  by_cases c3 : r.1 = 3
  · obtain ⟨_, i, i1, i2, i3, e1, e2, e3⟩ := p3 c3
    obtain ⟨v1, v2⟩ := zOKc hO i1 i2
    have v6 : zV R i < 6 := by omega
    have hw : zwr σ 91 R r = zt_st (zt_st (zte σ 91 (nI 3) (-1) r.2.2.1 r.2.2.2) 91 6 r.2.1) 91 7 (zvt R r.2.2.1) := if_pos c3
    have y0 : zwr σ 91 R r 91 0 = nI 3 := by rw [hw, zst_j (by decide), zst_j (by decide), zte_0]
    have y3 : zwr σ 91 R r 91 3 = r.2.2.2 := by rw [hw, zst_j (by decide), zst_j (by decide), zte_3]
    have y6 : zwr σ 91 R r 91 6 = nI (zV R i) := by rw [hw, zst_j (by decide), zst_s, e1]
    have y7 : zwr σ 91 R r 91 7 = zvt R (nI (zP R i)) := by rw [hw, zst_s, e2]
    generalize zwr σ 91 R r = σ1 at hK1 w5 w6 w7 w3 w10 w12 w13 w90 hFr y0 y3 y6 y7
    have hk9 : f_X5_keepPart σ1 = some (if aw = true then σ1 else zt_st σ1 90 (zV R i) (nI now + r.2.2.2)) := by
      unfold f_X5_keepPart f_X2_keepZone
      rw [w5, y0, y6, y3, w3]
      cases aw with
      | true => rw [if_neg (show ¬ zb true = 0 by decide), if_pos rfl]
      | false => rw [if_pos (show zb false = 0 from rfl), if_neg (show ¬ nI 3 = 5 by decide), if_pos (show nI 3 = 3 from rfl), if_neg (nI_pos (by omega)), zl_6, if_neg (nI_ge v6 (by omega)), zgd_i v6 (by decide), nI_clamp (by omega), zlt_e, if_neg (show ¬ false = true by decide)]; rfl
    have hZF := (hz6 (zV R i) v6).2.2.2.2.2.2.2.2
    have hrt := @zRT rc τ1 j (zP R i) (zV R i) n s Q R aw tl ld U (zb o) (nI z) tr (zgo σ (zV R i) (zvt R (nI (zP R i)))) ⟨by omega, by omega⟩ (zEA_M B2 hM) hO.2.1 (B3.1.trans e2) ((B3.2.2 (Or.inr c3)).trans e1) v6 (by
      unfold zgo
      rw [B2.1 100 (by decide), B2.1 101 (by decide), B2.1 102 (by decide), q1, h3, hZF.1, hZF.2.1, hZF.2.2.1, hZF.2.2.2])
    rw [c3, if_neg (show ¬ nI 3 = 5 by decide), if_pos (show nI 3 = 3 from rfl), hk9, zbd_s]
    refine ⟨_, rfl, ?_⟩
    rw [show (zOut rc σ τ (if aw = true then σ1 else zt_st σ1 90 (zV R i) (nI now + r.2.2.2)) Z now (t + 1) n s Q aw tl o ld U _) = _ from congrArg _ (hrt.trans (z407 v6))]
    have hgo : ∀ σ5, (∀ a, a ≠ 90 → σ5 a = σ1 a) → zgo σ5 (zV R i) (zvt R (nI (zP R i))) = zgo σ (zV R i) (zvt R (nI (zP R i))) := fun σ5 h => by
      unfold zgo
      rw [h _ (by omega), h 80 (by omega), hFr.1 _ (by omega), w3, h3]
    have hZC1 : ∀ σ5, (∀ a, a ≠ 90 → σ5 a = σ1 a) → zZC σ5 Z := fun σ5 h => ⟨by rw [h 1 (by decide), hFr.1 1 (by omega)]; exact hZC.1, fun m hm => by rw [h _ (by omega), hFr.1 _ (by omega)]; exact hZC.2 m hm⟩
    have fin : ∀ σ5 τ5, (∀ a, a ≠ 90 → σ5 a = σ1 a) → (∀ a, a ≠ 113 → τ5 a = τ1 a) → σ5 90 = τ5 113 → zOut rc σ τ σ5 Z now (t + 1) n s Q aw tl o ld U (f_X9_resolves_449 rc τ5 (nI s) (zb aw) (zb tl) (nI n) (nI Q) ld U (zb o) (nI (zV R i)) (ztr (zgo σ (zV R i) (zvt R (nI (zP R i)))) (zvt R (nI (zP R i))) tr) (nI 3)) := by
      intro σ5 τ5 g1 g2 g3
      obtain ⟨σ6, d1, d2, d3, d4, d5⟩ := @zGD σ5 Z (zV R i) (zvt R (nI (zP R i))) tr (hZC1 σ5 g1) hB v1 (by rw [g1 91 (by decide)]; exact y6) (by rw [g1 91 (by decide)]; exact y7) (by rw [g1 80 (by decide)]; exact w13)
      refine ⟨τ5, c, t, zIK_f hK1 (fun a _ _ => g1 a (by omega)) (fun a _ _ => g2 a (by omega)) (by rw [g2 94 (by decide)]), by omega, zFr_t hFr ⟨fun a h => g1 a (by omega), fun m _ _ _ _ => by rw [g1 80 (by decide)]⟩, zGr_t hG1 ⟨fun a h => g2 a (by omega), fun m _ _ _ _ => by rw [g2 94 (by decide)]⟩, g3, by rw [g1 80 (by decide)]; exact w10, Or.inr (Or.inr ⟨zV R i, _, σ6, v1, by rw [v2]; exact i3, by rw [g1 91 (by decide)]; exact y0, d1, d2, d3, d4, by rw [g1 80 (by decide)]; exact w12, d5.trans (by rw [hgo σ5 g1]), rfl⟩)⟩
    cases aw with
    | true => exact fin σ1 τ1 (fun _ _ => rfl) (fun _ _ => rfl) w90
    | false => exact fin _ _ (fun a h => zst_o h) (fun a h => zst_o h) (by
        funext b
        show zt_st σ1 90 (zV R i) (nI now + r.2.2.2) 90 b = zt_st τ1 113 (zV R i) (τ1 94 1 + τ1 94 34) 113 b
        rw [zst_if, zst_if, q1, B3.2.1, w90])
  · have hw : zwr σ 91 R r = zte σ 91 (nI r.1) (if r.1 = 0 then r.2.1 else -1) r.2.2.1 r.2.2.2 := if_neg c3
    have y0 : zwr σ 91 R r 91 0 = nI r.1 := by rw [hw, zte_0]
    have y1 : zwr σ 91 R r 91 1 = if r.1 = 0 then r.2.1 else -1 := by rw [hw, zte_1]
    have y2 : zwr σ 91 R r 91 2 = r.2.2.1 := by rw [hw, zte_2]
    have y3 : zwr σ 91 R r 91 3 = r.2.2.2 := by rw [hw, zte_3]
    generalize zwr σ 91 R r = σ1 at hK1 w5 w6 w7 w3 w10 w12 w13 w90 hFr y0 y1 y2 y3
    by_cases c5 : r.1 = 5
    · have hk9 : f_X5_keepPart σ1 = some σ1 := by
        unfold f_X5_keepPart
        rw [w5, y0, c5]
        cases aw with
        | true => rw [if_neg (show ¬ zb true = 0 by decide)]
        | false => rw [if_pos (show zb false = 0 from rfl), if_pos (show nI 5 = 5 from rfl)]
      rw [hk9, c5, if_pos (show nI 5 = 5 from rfl), zbd_s]
      exact ⟨_, rfl, τ1, c, t, hK1, by omega, hFr, hG1, w90, w10, Or.inl ⟨Or.inl (y0.trans (by rw [c5])), w12, zfl⟩⟩
    · have hkd : r.1 = 0 ∨ r.1 = 1 ∨ r.1 = 2 ∨ r.1 = 4 := by omega
      have n5 : ¬ nI r.1 = 5 := fun e => c5 ((nI_eq (by omega) (by decide)).mp e)
      have n3 : ¬ nI r.1 = 3 := fun e => c3 ((nI_eq (by omega) (by decide)).mp e)
      rw [if_neg n5, if_neg n3]
      have e32 : (if r.1 = 0 then τ1 94 32 else (-1 : Int32)) = if r.1 = 0 then r.2.1 else -1 := by
        by_cases c0 : r.1 = 0
        · rw [if_pos c0, if_pos c0, B3.2.2 (Or.inl c0)]
        · rw [if_neg c0, if_neg c0]
      have fin : ∀ σ' τ' c' t', zIK σ' τ' c' now t' → t' ≤ t + 1 → (∀ a, a < 81 ∨ 89 < a → σ' a = σ1 a) → (∀ a, a < 94 ∨ 94 < a ∧ a < 114 ∨ 120 < a → τ' a = τ1 a) → (∀ j, j ≠ 24 → τ' 94 j = τ1 94 j) → zOut rc σ τ σ' Z now (t + 1) n s Q aw tl o ld U (f_X9_resolves_449 rc τ' (nI s) (zb aw) (zb tl) (nI n) (nI Q) ld U (zb o) (nI z) tr (nI r.1)) := by
        intro σ' τ' c' t' g0 g1 g2 g3 g4
        refine ⟨τ', c', t', g0, g1, zFr_t hFr ⟨fun a h => g2 a (by omega), fun m _ _ _ _ => by rw [g2 80 (by decide)]⟩, zGr_t hG1 ⟨fun a h => g3 a (by omega), fun m h24 _ _ _ => g4 m h24⟩, by rw [g2 90 (by decide), g3 113 (by decide)]; exact w90, by rw [g2 80 (by decide)]; exact w10, Or.inr (Or.inl ⟨r.1, o, nI z, tr, hkd, by rw [g2 91 (by decide)]; exact y0, by rw [g2 91 (by decide), g4 32 (by decide), e32]; exact y1, by rw [g2 91 (by decide), g4 33 (by decide), B3.1]; exact y2, by rw [g2 80 (by decide)]; exact w12, fun q => ⟨q, l, pl, by rw [g2 91 (by decide)]; exact y3.trans pe, by rw [g4 34 (by decide)]; exact B3.2.1.trans pe⟩, fun q => by rw [g4 33 (by decide), B3.1]; exact p4 q, by rw [g2 80 (by decide)]; exact w13, rfl⟩)⟩
      cases aw with
      | true =>
        have hk9 : f_X5_keepPart σ1 = some σ1 := by
          unfold f_X5_keepPart
          rw [w5, if_neg (show ¬ zb true = 0 by decide)]
        rw [hk9, zbd_s, if_neg (show ¬ zb true = 0 by decide)]
        exact ⟨_, rfl, fin σ1 τ1 c t hK1 (by omega) (fun _ _ => rfl) (fun _ _ => rfl) (fun _ _ => rfl)⟩
      | false =>
        obtain ⟨σ', τ', c', k1, k2, k3, k4, k5, k6⟩ := @zKeep σ1 τ1 c now t r.1 (fun e => if e = 0 then nI n else if e = 1 then nI s else if e = 2 then nI r.1 else if e = 3 then (if r.1 = 0 then r.2.1 else -1) else if e = 4 then r.2.2.1 else if e = 5 then r.2.2.2 else nI now) hK1 ht
          ⟨r.1, l, rfl, hkd, pe, pl, rfl, p4, fun q => if_neg q⟩ (by omega) rfl y0 y1 y2 y3 e32.symm B3.1 B3.2.1 q1
        have k1' : f_X2_keepAnswer σ1 (nI n) (nI s) 91 (nI now) = some σ' := k1
        have k2' : f_X9_keeps τ1 (nI n) (nI s) (nI r.1) = some τ' := k2
        have hk9 : f_X5_keepPart σ1 = some σ' := by
          unfold f_X5_keepPart
          rw [w5, y0, w6, w7, w3, if_pos (show zb false = 0 from rfl), if_neg n5, if_neg n3, k1', zbd_s]
        rw [hk9, zbd_s, if_pos (show zb false = 0 from rfl), k2', zbd_s]
        exact ⟨_, rfl, fin σ' τ' c' (t + 1) k3 (Nat.le_refl _) k4 k5 k6⟩
