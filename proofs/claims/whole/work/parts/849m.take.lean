/-! one step of a resolver, in both -/
theorem zOut_t {rc : zRec} {σ σ1 τ σ5 : zt_St} {Z : Nat × (Nat → Nat)} {now T T2 n s Q : Nat} {aw tl o : Bool} {ld U : Int32} {ref : Option (Int32 × zt_St)} (h : zOut rc σ1 τ σ5 Z now T n s Q aw tl o ld U ref) (h1 : zFr σ σ1) (h2 : T ≤ T2) : zOut rc σ τ σ5 Z now T2 n s Q aw tl o ld U ref := by
  obtain ⟨τ5, c', t', a1, a2, a3, a4⟩ := h
  exact ⟨τ5, c', t', a1, Nat.le_trans a2 h2, zFr_t h1 a3, a4⟩
theorem zAsk {rc : zRec} {σ τ : zt_St} {Z : Nat × (Nat → Nat)} {RS : Nat → zR} {now t c n s q z : Nat} {aw tl o : Bool} {ld U tr : Int32} (hJ : zJ1 σ τ Z RS now) (hK : zIK σ τ c now t) (ht : t < 2 ^ 31) (hu : σ 90 = τ 113) (h5 : σ 80 5 = zb aw) (h6 : σ 80 6 = nI n) (h7 : σ 80 7 = nI s) (h8 : σ 80 8 = nI z) (h10 : σ 80 10 = nI q) (hq : q < 12) (h12 : σ 80 12 = zb o) (h13 : σ 80 13 = tr) (hn : znm n = true) (hs : s < 5) (hz : z < Z.1) (hun : zun n (Z.2 z) = true) :
    ∃ σ5, f_X5_askZone σ = some σ5 ∧ zOut rc σ τ σ5 Z now (t + 1) n s (q + 1) aw tl o ld U (f_X9_resolves_175 rc τ (nI s) (zb aw) (zb tl) (nI n) (nI q) ld U (zb o) (nI z) tr) := by
  have hFr : zFr σ (zt_st σ 80 10 (nI (q + 1))) := zFr_8 (by omega)
  have hJ1 := zJ1_f hJ hFr (zGr_r (σ := τ))
  have hK1 : zIK (zt_st σ 80 10 (nI (q + 1))) τ c now t := zIK_f hK (fun a _ _ => zst_o (by omega)) (fun _ _ _ => rfl) rfl
  have g5 : zt_st σ 80 10 (nI (q + 1)) 80 5 = zb aw := (zst_j (by decide)).trans h5
  have g6 : zt_st σ 80 10 (nI (q + 1)) 80 6 = nI n := (zst_j (by decide)).trans h6
  have g7 : zt_st σ 80 10 (nI (q + 1)) 80 7 = nI s := (zst_j (by decide)).trans h7
  have g8 : zt_st σ 80 10 (nI (q + 1)) 80 8 = nI z := (zst_j (by decide)).trans h8
  have g10 : zt_st σ 80 10 (nI (q + 1)) 80 10 = nI (q + 1) := zst_s
  have g12 : zt_st σ 80 10 (nI (q + 1)) 80 12 = zb o := (zst_j (by decide)).trans h12
  have g13 : zt_st σ 80 10 (nI (q + 1)) 80 13 = tr := (zst_j (by decide)).trans h13
  have gu : zt_st σ 80 10 (nI (q + 1)) 90 = τ 113 := by rw [zst_o (by decide)]; exact hu
  unfold f_X5_askZone f_X9_resolves_175
  rw [h10, nI_1, zlt_e]
  generalize zt_st σ 80 10 (nI (q + 1)) = σ1 at hFr hJ1 hK1 g5 g6 g7 g8 g10 g12 g13 gu
  obtain ⟨hZC, hZM, hB, h0, hz6⟩ := hJ1.1
  have h6B := hB.1
  obtain ⟨⟨r1, r2, r3, r4⟩, ⟨o1, o2, o3⟩, _, _, f3, f4, f5, f6, _⟩ := hz6 z (by omega)
  rw [g8, z3at hZC hB hz, zbd_s, zgd_d (zkd5 z (by omega))]
  have hq12 : ¬ nI q = nI 12 := fun e => by have := (nI_eq (by omega) (by omega)).mp e; omega
  unfold f_X6_isAnswering f_X6_isAnswering_15 f_X6_answering
  rw [f5, f3, g6, g7, zl_12, if_neg hq12, zgd_i (by omega) (by decide), nI_clamp (by omega), zgd_i (by omega) (by decide)]
  by_cases c1 : τ 99 z = 0
  · rw [if_pos c1, if_pos c1, if_pos c1, zbd_s, if_neg (show ¬ (1 : Int32) = 0 by decide), zbd_s, zgd_d (show zt_kd (3 + 11 * z + 1) = 3 from (show ∀ i, i < 6 → zt_kd (3 + 11 * i + 1) = 3 by decide) z (by omega))]
    obtain ⟨σ5, e1, e2⟩ := @zLive rc σ1 τ Z RS now t c n s (q + 1) z z (3 + 11 * z + 1) (RS z) aw tl o ld U tr hJ1 hK1 ht gu g5 g6 g7 g10 g12 g13 hn hs hz hun (by omega) (zK1 (by omega) o1.1) (by omega) r1 r3 o1
    exact ⟨σ5, e1, zOut_t e2 hFr (Nat.le_refl _)⟩
  · rw [if_neg c1, if_neg c1, if_neg c1]
    by_cases c2 : τ 98 z = -1
    · rw [if_pos c2, if_pos c2, zbd_s, if_pos rfl]
      obtain ⟨σ5, e1, e2⟩ := @zOld rc σ1 τ Z now t c n s (q + 1) aw tl o ld U (nI z) tr hK1 hJ1.2.1 hJ1.2.2.1 hJ1.2.2.2.2 gu g5 g6 g7 g10 g12 g13
      rw [e1, zbd_s]
      exact ⟨σ5, rfl, zOut_t e2 hFr (by omega)⟩
    · rw [if_neg c2, if_neg c2, zbd_s, if_neg (show ¬ (1 : Int32) = 0 by decide), zbd_s, zgd_d (show zt_kd (3 + 11 * z + 6) = 3 from (show ∀ i, i < 6 → zt_kd (3 + 11 * i + 6) = 3 by decide) z (by omega)), zl_6, nI_add]
      obtain ⟨σ5, e1, e2⟩ := @zLive rc σ1 τ Z RS now t c n s (q + 1) z (6 + z) (3 + 11 * z + 6) (RS (6 + z)) aw tl o ld U tr hJ1 hK1 ht gu g5 g6 g7 g10 g12 g13 hn hs hz hun (by omega) (zK6 (by omega) o2.1) (by omega) r2 r4 o2
      exact ⟨σ5, e1, zOut_t e2 hFr (Nat.le_refl _)⟩
theorem zbz_b {Z : Nat × (Nat → Nat)} {U : Nat → Int32} {n s : Nat} {now : Int32} : ∀ d i b, i + d ≤ Z.1 → b < Z.1 → zun n (Z.2 b) = true → zbz Z U n s now d i b < Z.1 ∧ zun n (Z.2 (zbz Z U n s now d i b)) = true := by
  intro d
  induction d with
  | zero => intro i b _ h1 h2; exact ⟨h1, h2⟩
  | succ d ih =>
    intro i b h h1 h2
    rw [zbz_s]
    by_cases c1 : (zcz Z U n s now i && decide (Z.2 b < Z.2 i)) = true
    · rw [if_pos c1]
      refine ih (i + 1) i (by omega) (by omega) ?_
      unfold zcz at c1
      simp only [Bool.and_eq_true] at c1
      exact c1.1.1.1
    · rw [if_neg c1]
      exact ih (i + 1) b (by omega) h1 h2
theorem zun0 {n : Nat} : zun n 0 = true := decide_eq_true (by omega)
/-- the zone that is asked first -/
theorem zGS {rc : zRec} {σ τ : zt_St} {Z : Nat × (Nat → Nat)} {RS : Nat → zR} {now n s q : Nat} {aw tl o : Bool} {ld U tr : Int32} (hJ : zJ1 σ τ Z RS now) (hu : σ 90 = τ 113) (h5 : σ 80 5 = zb aw) (h6 : σ 80 6 = nI n) (h7 : σ 80 7 = nI s) (hn : znm n = true) (hs : s < 5) :
    ∃ b tr', b < Z.1 ∧ zun n (Z.2 b) = true ∧ f_X5_goToStart σ = some (zt_st (zt_st σ 80 8 (nI b)) 80 13 tr') ∧ f_X9_resolves_124 rc τ (nI s) (zb aw) (zb tl) (nI n) (nI q) ld U (zb o) (-1) tr = f_X9_resolves_175 rc τ (nI s) (zb aw) (zb tl) (nI n) (nI q) ld U (zb o) (nI b) tr' := by
  obtain ⟨hW, h3, h1, hanc, hnow⟩ := hJ
  obtain ⟨hZC, hZM, hB, h0, hz6⟩ := hW
  have hn4 := znm_lt hn
  have hb1 : ∃ b, b < Z.1 ∧ zun n (Z.2 b) = true ∧ f_X5_goToStart σ = f_X5_goToStart_16 σ (nI b) ∧ f_X9_bestZone τ (nI n) (nI s) (zb aw) = some (nI b) := by
    unfold f_X5_goToStart
    rw [h5]
    cases aw with
    | true => exact ⟨0, hB.2.1, by rw [h0]; exact zun0, if_neg (show ¬ zb true = 0 by decide), z9bz1 hZM hB⟩
    | false =>
      obtain ⟨w1, w2⟩ := @zbz_b Z (σ 90) n s (σ 80 3) (Z.1 - 1) 1 0 (by have := hB.2.1; omega) hB.2.1 (by rw [h0]; exact zun0)
      refine ⟨zbz Z (σ 90) n s (σ 80 3) (Z.1 - 1) 1 0, w1, w2, ?_, ?_⟩
      · rw [if_pos (show zb false = 0 from rfl), z3nk hZC hB hn4 hs h6 h7, zbd_s]
      · refine (z9bz hZM hB hn4 hs h0).trans ?_
        rw [hu, h3, h1]
  obtain ⟨b, w1, w2, w3, w4⟩ := hb1
  have hZ' : zZC (zt_st σ 80 8 (nI b)) Z := ⟨by rw [zst_o (by decide)]; exact hZC.1, fun i hi => by rw [zst_o (by have := hB.1; omega)]; exact hZC.2 i hi⟩
  rw [w3]
  unfold f_X5_goToStart_16 f_X5_goToStart_66 f_X9_resolves_124 f_X9_resolves_173
  rw [if_pos rfl, w4, zbd_s, zlt_e, zst_j (show 4 ≠ 8 by decide), hanc]
  by_cases c1 : τ 94 11 = -1
  · rw [if_pos c1, if_pos c1, zlt_e]
    exact ⟨b, 1, w1, w2, rfl, rfl⟩
  · have hZF := (hz6 0 (by decide)).2.2.2.2.2.2.2.2
    rw [if_neg c1, if_neg c1, zl_0, z3at hZ' hB hB.2.1, zbd_s, zgd_d (zkd5 0 (by decide)), z3nok, zbd_s, z3gf, zbd_s, z9cod, zbd_s, z9gd (by decide), zbd_s]
    rw [zst_o (show 3 + 11 * 0 ≠ 80 by decide), zst_j (show 3 ≠ 8 by decide), hZF.1, hZF.2.1, hZF.2.2.1, hZF.2.2.2, h3, h1]
    generalize ((zkf (τ 100 (2 * 0)) (zco (τ 94 11)) || zkf (τ 100 (2 * 0 + 1)) (zco (τ 94 11))) && zwi (τ 101 0) (τ 102 0) (nI now)) = g
    cases g with
    | true =>
      rw [if_neg (show ¬ zb true = nI 0 by decide), if_neg (show ¬ zb true = nI 0 by decide), zlt_e]
      exact ⟨b, 0, w1, w2, rfl, rfl⟩
    | false =>
      rw [if_pos (show zb false = nI 0 from rfl), if_pos (show zb false = nI 0 from rfl), zlt_e]
      exact ⟨b, 2, w1, w2, rfl, rfl⟩
theorem zNH {rc : zRec} {σ τ : zt_St} {Z : Nat × (Nat → Nat)} {RS : Nat → zR} {now t c n s q : Nat} {zo : Option Nat} {aw tl o : Bool} {ld U tr : Int32} (hJ : zJ1 σ τ Z RS now) (hK : zIK σ τ c now t) (ht : t < 2 ^ 31) (hu : σ 90 = τ 113) (h5 : σ 80 5 = zb aw) (h6 : σ 80 6 = nI n) (h7 : σ 80 7 = nI s) (h8 : σ 80 8 = oI 0 zo) (h10 : σ 80 10 = nI q) (hq : q ≤ 12) (h12 : σ 80 12 = zb o) (h13 : σ 80 13 = tr) (hn : znm n = true) (hs : s < 5) (hzo : ∀ z, zo = some z → z < Z.1 ∧ zun n (Z.2 z) = true) :
    ∃ σ5, (if (σ 80 10) < 12 then (if (σ 80 8) = (-1) then zt_bd (f_X5_goToStart σ) fun σ11 => f_X5_takePart_105 σ11 else f_X5_takePart_105 σ) else (zt_bd (f_X0_tell σ 91 6 (-1) (-1) 0) fun σ13 => some σ13)) = some σ5 ∧ ∃ Q T, ((Q = q + 1 ∧ T = t + 1 ∧ q < 12) ∨ (Q = q ∧ T = t ∧ ¬ σ5 91 0 = nI 3)) ∧ zOut rc σ τ σ5 Z now T n s Q aw tl o ld U (f_X9_resolves_124 rc τ (nI s) (zb aw) (zb tl) (nI n) (nI q) ld U (zb o) (oI 0 zo) tr) := by
  have h6B := hJ.1.2.2.1.1
  rw [h10, h8, zl_12]
  by_cases c1 : q < 12
  · rw [if_pos (nI_lt c1 (by omega))]
    cases zo with
    | none =>
      rw [if_pos (show oI 0 none = -1 from rfl)]
      obtain ⟨b, tr', w1, w2, w3, w4⟩ := @zGS rc σ τ Z RS now n s q aw tl o ld U tr hJ hu h5 h6 h7 hn hs
      have hFr : zFr σ (zt_st (zt_st σ 80 8 (nI b)) 80 13 tr') := zFr_t (zFr_8 (by omega)) (zFr_8 (by omega))
      have j5 : ∀ j, j ≠ 8 → j ≠ 13 → zt_st (zt_st σ 80 8 (nI b)) 80 13 tr' 80 j = σ 80 j := fun j a b => (zst_j b).trans (zst_j a)
      have jo : ∀ a, a ≠ 80 → zt_st (zt_st σ 80 8 (nI b)) 80 13 tr' a = σ a := fun a h => (zst_o h).trans (zst_o h)
      have j8 : zt_st (zt_st σ 80 8 (nI b)) 80 13 tr' 80 8 = nI b := (zst_j (by decide)).trans zst_s
      have j13 : zt_st (zt_st σ 80 8 (nI b)) 80 13 tr' 80 13 = tr' := zst_s
      rw [w3, zbd_s, show f_X9_resolves_124 rc τ (nI s) (zb aw) (zb tl) (nI n) (nI q) ld U (zb o) (oI 0 none) tr = _ from w4]
      generalize zt_st (zt_st σ 80 8 (nI b)) 80 13 tr' = σ1 at hFr j5 jo j8 j13
      obtain ⟨σ5, e1, e2⟩ := @zAsk rc σ1 τ Z RS now t c n s q b aw tl o ld U tr' (zJ1_f hJ hFr zGr_r) (zIK_f hK (fun a _ _ => jo a (by omega)) (fun _ _ _ => rfl) rfl) ht (by rw [jo 90 (by decide)]; exact hu) ((j5 5 (by decide) (by decide)).trans h5) ((j5 6 (by decide) (by decide)).trans h6) ((j5 7 (by decide) (by decide)).trans h7) j8 ((j5 10 (by decide) (by decide)).trans h10) c1 ((j5 12 (by decide) (by decide)).trans h12) j13 hn hs w1 w2
      unfold f_X5_takePart_105
      rw [e1, zbd_s]
      exact ⟨σ5, rfl, q + 1, t + 1, Or.inl ⟨rfl, rfl, c1⟩, zOut_t e2 hFr (Nat.le_refl _)⟩
    | some z =>
      obtain ⟨z1, z2⟩ := hzo z rfl
      rw [if_neg (oI_1 (by omega))]
      have e : oI 0 (some z) = nI z := congrArg nI (Nat.zero_add z)
      rw [e] at h8 ⊢
      obtain ⟨σ5, e1, e2⟩ := @zAsk rc σ τ Z RS now t c n s q z aw tl o ld U tr hJ hK ht hu h5 h6 h7 h8 h10 c1 h12 h13 hn hs z1 z2
      unfold f_X5_takePart_105 f_X9_resolves_124
      rw [e1, zbd_s, if_neg (zm1 (by omega))]
      exact ⟨σ5, rfl, q + 1, t + 1, Or.inl ⟨rfl, rfl, c1⟩, e2⟩
  · have q12 : q = 12 := by omega
    have F2 : ∀ z tr, f_X9_resolves_175 rc τ (nI s) (zb aw) (zb tl) (nI n) (nI q) ld U (zb o) z tr = f_X9_fails τ (nI q) (zb o) (zb tl) := fun z tr => by
      unfold f_X9_resolves_175
      rw [if_pos (show nI q = 12 from by rw [q12]; rfl)]
      exact zfl
    have F3 : f_X9_resolves_124 rc τ (nI s) (zb aw) (zb tl) (nI n) (nI q) ld U (zb o) (oI 0 zo) tr = f_X9_fails τ (nI q) (zb o) (zb tl) := by
      cases zo with
      | none =>
        obtain ⟨b, tr', w1, w2, w3, w4⟩ := @zGS rc σ τ Z RS now n s q aw tl o ld U tr hJ hu h5 h6 h7 hn hs
        exact w4.trans (F2 _ _)
      | some z =>
        obtain ⟨z1, z2⟩ := hzo z rfl
        unfold f_X9_resolves_124
        rw [if_neg (oI_1 (by omega))]
        exact F2 _ _
    rw [if_neg (nI_nlt (by omega) (by omega)), z0tell, zbd_s]
    refine ⟨_, rfl, q, t, Or.inr ⟨rfl, rfl, ?_⟩, zOutF hK (Nat.le_refl _) hu h10 h12 F3⟩
    rw [zte_0]
    decide
theorem zTake {rc : zRec} {σ τ : zt_St} {Z : Nat × (Nat → Nat)} {RS : Nat → zR} {now t c n s q : Nat} {zo : Option Nat} {aw tl o : Bool} {ld U tr : Int32} (hJ : zJ1 σ τ Z RS now) (hK : zIK σ τ c now t) (ht : t < 2 ^ 31) (hu : σ 90 = τ 113) (h5 : σ 80 5 = zb aw) (h6 : σ 80 6 = nI n) (h7 : σ 80 7 = nI s) (h8 : σ 80 8 = oI 0 zo) (h10 : σ 80 10 = nI q) (hq : q ≤ 12) (h12 : σ 80 12 = zb o) (h13 : σ 80 13 = tr) (hn : znm n = true) (hs : s < 5) (hzo : ∀ z, zo = some z → z < Z.1 ∧ zun n (Z.2 z) = true) :
    ∃ σ5, f_X5_takePart σ = some σ5 ∧ ∃ Q T, ((Q = q + 1 ∧ T = t + 1 ∧ q < 12) ∨ (Q = q ∧ T = t ∧ ¬ σ5 91 0 = nI 3)) ∧ zOut rc σ τ σ5 Z now T n s Q aw tl o ld U (f_X9_resolves_28b rc τ (nI s) (zb aw) (zb tl) (nI n) (nI q) ld U (zb o) (oI 0 zo) tr) := by
  have NH := @zNH rc σ τ Z RS now t c n s q zo aw tl o ld U tr hJ hK ht hu h5 h6 h7 h8 h10 hq h12 h13 hn hs hzo
  have hc0 : ∀ y, f_X2_isHolding σ y (σ 80 3) = some 0 → f_X5_takePart_34 σ y = (if (σ 80 10) < 12 then (if (σ 80 8) = (-1) then zt_bd (f_X5_goToStart σ) fun σ11 => f_X5_takePart_105 σ11 else f_X5_takePart_105 σ) else (zt_bd (f_X0_tell σ 91 6 (-1) (-1) 0) fun σ13 => some σ13)) := fun y e => by
    unfold f_X5_takePart_34
    rw [e, zbd_s, if_pos rfl]
  have hn1 : f_X2_isHolding σ (-1) (σ 80 3) = some 0 := rfl
  have h49 : f_X9_resolves_49 rc τ (-1) (nI s) (zb aw) (zb tl) (nI n) (nI q) ld U (zb o) (oI 0 zo) tr = f_X9_resolves_124 rc τ (nI s) (zb aw) (zb tl) (nI n) (nI q) ld U (zb o) (oI 0 zo) tr := by
    unfold f_X9_resolves_49
    rw [if_pos rfl]
  have plain : (zb aw = 0 → ¬ oI 0 zo = -1) → ∃ σ5, f_X5_takePart σ = some σ5 ∧ ∃ Q T, ((Q = q + 1 ∧ T = t + 1 ∧ q < 12) ∨ (Q = q ∧ T = t ∧ ¬ σ5 91 0 = nI 3)) ∧ zOut rc σ τ σ5 Z now T n s Q aw tl o ld U (f_X9_resolves_28b rc τ (nI s) (zb aw) (zb tl) (nI n) (nI q) ld U (zb o) (oI 0 zo) tr) := fun hne => by
    have e1 : f_X5_takePart σ = f_X5_takePart_34 σ (-1) := by
      unfold f_X5_takePart f_X5_takePart_15
      rw [h5, h8]
      by_cases a : zb aw = 0
      · rw [if_pos a, if_neg (hne a)]
      · rw [if_neg a]
    have e2 : f_X9_resolves_28b rc τ (nI s) (zb aw) (zb tl) (nI n) (nI q) ld U (zb o) (oI 0 zo) tr = f_X9_resolves_49 rc τ (-1) (nI s) (zb aw) (zb tl) (nI n) (nI q) ld U (zb o) (oI 0 zo) tr := by
      unfold f_X9_resolves_28b f_X9_resolves_38
      by_cases a : zb aw = 0
      · rw [if_pos a, if_neg (hne a)]
      · rw [if_neg a]
    rw [e1, e2, hc0 _ hn1, h49]
    exact NH
  cases aw with
  | true => exact plain (fun e => absurd e (by decide))
  | false =>
    cases zo with
    | some z =>
      have := (hzo z rfl).1
      have h6B := hJ.1.2.2.1.1
      exact plain (fun _ => oI_1 (by omega))
    | none =>
      have hK2 := hK
      obtain ⟨h8k, h24, h40, h9, w, ρ, hd⟩ := hK
      have e1 : f_X5_takePart σ = zt_bd (f_X2_rowOf σ (nI n) (nI s)) fun v3 => f_X5_takePart_34 σ v3 := by
        unfold f_X5_takePart
        rw [h5, h8, h6, h7, if_pos (show zb false = 0 from rfl), if_pos (show oI 0 none = -1 from rfl)]
      have e2 : f_X9_resolves_28b rc τ (nI s) (zb false) (zb tl) (nI n) (nI q) ld U (zb o) (oI 0 none) tr = zt_bd (f_X9_keptOf τ (nI n) (nI s)) fun v4 => f_X9_resolves_49 rc τ v4 (nI s) (zb false) (zb tl) (nI n) (nI q) ld U (zb o) (oI 0 none) tr := by
        unfold f_X9_resolves_28b
        rw [if_pos (show zb false = 0 from rfl), if_pos (show oI 0 none = -1 from rfl)]
      rw [e1, e2, z2ro h8k h40, z9ko h24 h40, zbd_s, zbd_s]
      rcases @zKfi σ τ w ρ c now t (nI n) (nI s) hd with ⟨a1, a2, a3⟩ | ⟨r, hr, a1, a2, a3, a4⟩
      · rw [a1, a2]
        show ∃ σ5, f_X5_takePart_34 σ (-1) = some σ5 ∧ ∃ Q T, ((Q = q + 1 ∧ T = t + 1 ∧ q < 12) ∨ (Q = q ∧ T = t ∧ ¬ σ5 91 0 = nI 3)) ∧ zOut rc σ τ σ5 Z now T n s Q false tl o ld U (f_X9_resolves_49 rc τ (-1) (nI s) (zb false) (zb tl) (nI n) (nI q) ld U (zb o) (oI 0 none) tr)
        rw [hc0 _ hn1, h49]
        exact NH
      · obtain ⟨kd, l, tm, k1, k2, k3, k4, k5, k6, k7, k8, k9, k10, k11, k12, k13, k14⟩ := zKrow hd hr
        rw [a1, a2]
        show ∃ σ5, f_X5_takePart_34 σ (nI (0 + ρ r)) = some σ5 ∧ ∃ Q T, ((Q = q + 1 ∧ T = t + 1 ∧ q < 12) ∨ (Q = q ∧ T = t ∧ ¬ σ5 91 0 = nI 3)) ∧ zOut rc σ τ σ5 Z now T n s Q false tl o ld U (f_X9_resolves_49 rc τ (nI (0 + r)) (nI s) (zb false) (zb tl) (nI n) (nI q) ld U (zb o) (oI 0 none) tr)
        rw [Nat.zero_add, Nat.zero_add]
        have hnow := hJ.2.2.2.2
        have h3 := hJ.2.1
        have h1 := hJ.2.2.1
        have hh : f_X2_isHolding σ (nI (ρ r)) (σ 80 3) = some (zb (zhC σ (σ 80 3) (ρ r))) := z2hol h8k h40 k14
        by_cases c1 : tm + l ≤ now
        · have hz : zhC σ (σ 80 3) (ρ r) = false := by
            unfold zhC
            rw [k8, k6, h3, nI_add, decide_eq_true (nI_le c1 (by omega))]
            rfl
          rw [hz] at hh
          rw [hc0 _ hh]
          have e3 : f_X9_resolves_49 rc τ (nI r) (nI s) (zb false) (zb tl) (nI n) (nI q) ld U (zb o) (oI 0 none) tr = f_X9_resolves_124 rc τ (nI s) (zb false) (zb tl) (nI n) (nI q) ld U (zb o) (oI 0 none) tr := by
            unfold f_X9_resolves_49
            rw [if_neg (zm1 (by omega)), zgd_i (by omega) (by decide), zgd_i (by omega) (by decide), nI_clamp (by omega), k9, k7, h1, nI_add, if_pos (nI_le c1 (by omega))]
          rw [e3]
          exact NH
        · have hz : zhC σ (σ 80 3) (ρ r) = true := by
            unfold zhC
            rw [k8, k6, h3, nI_add, decide_eq_false (nI_ge (by omega) (by omega))]
            rfl
          rw [hz] at hh
          have e4 : f_X5_takePart_34 σ (nI (ρ r)) = some (zte σ 91 (σ 84 (ρ r)) (σ 85 (ρ r)) (σ 86 (ρ r)) (nI (tm + l - now))) := by
            unfold f_X5_takePart_34
            rw [hh, zbd_s, if_neg (show ¬ zb true = 0 by decide), z2rea h8k h40 k14, zbd_s, k8, k6, h3, nI_add, pk_sub (by omega)]
          have e3 : f_X9_resolves_49 rc τ (nI r) (nI s) (zb false) (zb tl) (nI n) (nI q) ld U (zb o) (oI 0 none) tr = f_X9_resolves_449 rc (zt_st (ztk τ r) 94 34 (nI (tm + l - now))) (nI s) (zb false) (zb tl) (nI n) (nI q) ld U (zb o) (oI 0 none) tr (nI kd) := by
            unfold f_X9_resolves_49
            rw [if_neg (zm1 (by omega)), zgd_i (by omega) (by decide), zgd_i (by omega) (by decide), nI_clamp (by omega), k9, k7, h1, nI_add, if_neg (nI_ge (by omega) (by omega)), zgd_i (by omega) (by decide), z9tak (by omega), zbd_s, zgd_i (by omega) (by decide), zgd_i (by omega) (by decide), zlt_e, ztk_o (by decide), ztk_o (by decide), ztk_j (by decide) (by decide) (by decide), k9, k7, h1, nI_add, pk_sub (by omega), k3]
          rw [e4, e3]
          refine ⟨_, rfl, q, t, Or.inr ⟨rfl, rfl, ?_⟩, zt_st (ztk τ r) 94 34 (nI (tm + l - now)), c, t, zIK_f hK2 (fun a _ _ => zte_o (by omega)) (fun a _ _ => (zst_o (by omega)).trans (ztk_o (by omega))) ((zst_j (by decide)).trans (ztk_j (by decide) (by decide) (by decide))), Nat.le_refl _, zFr_k (fun a h => zte_o (by omega)), ⟨fun a h => (zst_o (by omega)).trans (ztk_o (by omega)), fun j a b c d => (zst_j d).trans (ztk_j b c d)⟩, ?_, ?_, Or.inr (Or.inl ⟨kd, o, oI 0 none, tr, k1, ?_, ?_, ?_, ?_, fun z => ⟨z, tm + l - now, by omega, zte_3, zst_s⟩, fun z => ?_, ?_, rfl⟩)⟩
          · rw [zte_0, k2]
            intro e
            have := (nI_eq (by omega) (by omega)).mp e
            omega
          · rw [zte_o (by decide), zst_o (by decide), ztk_o (by decide)]; exact hu
          · rw [zte_o (by decide)]; exact h10
          · rw [zte_0]; exact k2
          · rw [zte_1, zst_j (by decide), ztk_2, k4]
            by_cases c2 : kd = 0
            · rw [if_pos c2]
            · rw [if_neg c2]; exact k13 c2
          · rw [zte_2, zst_j (by decide), ztk_3]; exact k5
          · rw [zte_o (by decide)]; exact h12
          · rw [zst_j (by decide), ztk_3]; exact k12 z
          · rw [zte_o (by decide)]; exact h13
