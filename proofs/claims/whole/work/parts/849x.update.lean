/-! an update, in both -/
def zupd (R : zR) (T : zT) (a : Nat) (Z : Nat × (Nat → Nat)) : Option zR := match (if zmet R T T.1 0 = true then zmd T T.1 0 R else none) with
  | none => none
  | some R' => if zfit R' a Z = true then some R' else none
def zU3 (σ σ' : zt_St) (z se : Nat) : Option zR → Prop
  | none => f_X1_doTo σ (3 + 11 * z) = some (0, σ') ∧ ∀ e, e ≠ 69 → e < 75 ∨ 79 < e → σ' e = σ e
  | some R' => f_X1_doTo σ (3 + 11 * z) = some (1, σ') ∧ zRC σ' (3 + 11 * z + 1) R' ∧ σ' (3 + 11 * z) 2 = nI ((se + 1) % 16) ∧ (∀ e, e ≠ 69 → e < 75 ∨ 79 < e → e < 3 + 11 * z ∨ 3 + 11 * z + 5 < e → σ' e = σ e) ∧ ∀ j, j ≠ 2 → σ' (3 + 11 * z) j = σ (3 + 11 * z) j
theorem z3up0 {σ : zt_St} {k : Nat} : f_X1_doTo_45 k σ = some (0, zt_st σ 69 5 0) := rfl
theorem z3upd {σ : zt_St} {Z : Nat × (Nat → Nat)} {R : zR} {T : zT} {a se z : Nat} (hz : z < 6) (hr : zRC σ (3 + 11 * z + 1) R) (hO : zOK R a Z) (hT : zTC σ T) (hB : zTB T) (hG : zTG T) (ha : σ (3 + 11 * z) 0 = nI a) (ha2 : a < 10000) (hZ : zZC σ Z) (hZB : zZB Z) (hs : σ (3 + 11 * z) 2 = nI se) (hse : se < 16) : ∃ σ', zU3 σ σ' z se (zupd R T a Z) ∧ σ' 69 5 = nI 0 := by
  have h20 := hO.1
  have hZ6 := hZB.1
  have hB10 := hB.1
  obtain ⟨σ2, b1, b2, b3⟩ := z3bec (zK75 (by omega)) (zK1 hz hO.1) (by omega) hr
  have hr2 : zRC σ2 (3 + 11 * z + 1) R := zRC_f hr (fun c _ _ => b3 c (by omega))
  have hT2 : zTC σ2 T := zTC_f hT (fun e _ _ => b3 e (by omega))
  have A := z3met (zK1 hz hO.1) hr2 hT2 hB
  have base : ∀ σ7 : zt_St, (∀ e, e < 75 ∨ 79 < e → σ7 e = σ e) → ∀ e, e ≠ 69 → e < 75 ∨ 79 < e → zt_st σ7 69 5 0 e = σ e := fun σ7 h e h1 h2 => (zst_o h1).trans (h e h2)
  unfold zupd
  by_cases c1 : zmet R T T.1 0 = true
  · rw [if_pos c1]
    rw [c1] at A
    obtain ⟨σ7, m1, m2⟩ := z3madL hB T.1 0 σ2 R (4999 - T.1) (by omega) hT2 b2 (by omega)
    rw [← zfu T.1 (by omega)] at m1
    have f7 : ∀ e, e < 75 ∨ 79 < e → σ7 e = σ e := fun e h => (m2 e h).trans (b3 e (by omega))
    cases hq : zmd T T.1 0 R with
    | none =>
      rw [hq] at m1
      have m1' : f_X1_areMade σ2 = some (0, σ7) := m1
      refine ⟨zt_st σ7 69 5 0, ⟨?_, base σ7 f7⟩, zst_s⟩
      unfold f_X1_doTo
      rw [b1, zbd_s, A, zbd_s, if_neg (show ¬ zb true = 0 by decide), m1', zbd_s]
      rfl
    | some R' =>
      rw [hq] at m1
      obtain ⟨m1a, m1b, m1c⟩ := m1
      have m1' : f_X1_areMade σ2 = some (1, σ7) := m1a
      have g : zGd R' := zmd_g hG T.1 0 R R' (by omega) ⟨hO.2.1, hO.2.2.1, hO.2.2.2.1⟩ hq
      have hZ7 : zZC σ7 Z := ⟨by rw [f7 1 (by omega)]; exact hZ.1, fun i hi => by rw [f7 _ (by omega)]; exact hZ.2 i hi⟩
      have F := z3fit (k0 := 3 + 11 * z) (zK75 m1c) m1b g.1 (by rw [f7 _ (by omega)]; exact ha) ha2 hZ7 hZB
      show ∃ σ', zU3 σ σ' z se (if zfit R' a Z = true then some R' else none) ∧ σ' 69 5 = nI 0
      by_cases c2 : zfit R' a Z = true
      · rw [if_pos c2]
        rw [c2] at F
        have r20 : R'.1 ≤ 20 := by
          unfold zfit at c2
          rw [Bool.and_eq_true] at c2
          exact of_decide_eq_true c2.1
        obtain ⟨σ8, t1, t2, t3⟩ := z3bec (zK1 hz r20) (zK75 m1c) (by omega) m1b
        have q2 : σ8 (3 + 11 * z) 2 = nI se := by rw [t3 _ (by omega), f7 _ (by omega)]; exact hs
        have T1 : f_X6_take σ7 (3 + 11 * z) 75 = some (zt_st σ8 (3 + 11 * z) 2 (nI ((se + 1) % 16))) := by
          unfold f_X6_take f_X6_take_30
          rw [t1, zbd_s, q2, nI_1, zl_16]
          by_cases c3 : 16 ≤ se + 1
          · rw [if_pos (nI_le c3 (by omega)), show (se + 1) % 16 = 0 by omega]; rfl
          · rw [if_neg (nI_ge (by omega) (by omega)), show (se + 1) % 16 = se + 1 by omega]; rfl
        refine ⟨zt_st (zt_st σ8 (3 + 11 * z) 2 (nI ((se + 1) % 16))) 69 5 0, ⟨?_, ?_, ?_, fun e h1 h2 h3 => ?_, fun j h => ?_⟩, zst_s⟩
        · unfold f_X1_doTo f_X1_doTo_46
          rw [b1, zbd_s, A, zbd_s, if_neg (show ¬ zb true = 0 by decide), m1', zbd_s]
          simp only [zlt_e]
          rw [if_neg zn1, F, zbd_s, if_neg (show ¬ zb true = 0 by decide), if_neg zn1, T1, zbd_s]
          rfl
        · exact zRC_f t2 (fun c _ _ => (zst_o (by omega)).trans (zst_o (by omega)))
        · rw [zst_o (by omega), zst_s]
        · rw [zst_o h1, zst_o (by omega), t3 e (by omega), f7 e h2]
        · rw [zst_o (by omega), zst_j h, t3 _ (by omega), f7 _ (by omega)]
      · rw [if_neg c2]
        rw [Bool.eq_false_iff.mpr c2] at F
        refine ⟨zt_st σ7 69 5 0, ⟨?_, base σ7 f7⟩, zst_s⟩
        unfold f_X1_doTo
        rw [b1, zbd_s, A, zbd_s, if_neg (show ¬ zb true = 0 by decide), m1', zbd_s]
        simp only [zlt_e]
        rw [if_neg zn1, F, zbd_s, if_pos (show zb false = 0 from rfl)]
        rfl
  · rw [if_neg c1]
    rw [Bool.eq_false_iff.mpr c1] at A
    refine ⟨zt_st σ2 69 5 0, ⟨?_, base σ2 (fun e h => b3 e (by omega))⟩, zst_s⟩
    unfold f_X1_doTo
    rw [b1, zbd_s, A, zbd_s, if_pos (show zb false = 0 from rfl)]
    rfl
def zU9 (τ τ' : zt_St) (z se : Nat) : Option zR → Prop
  | none => (zt_bd (f_X9_copies τ (nI z) 12) fun σ8 => f_X9_update_25 zt_FU σ8 (nI z) 1 0) = some (0, τ') ∧ (∀ e, e ≠ 94 → e < 103 ∨ 107 < e → τ' e = τ e) ∧ (∀ j, j ≠ 17 → τ' 94 j = τ 94 j) ∧ ∀ t Q, t ≠ 12 → Q.1 ≤ 32 → zRM τ t Q → zRM τ' t Q
  | some R' => (zt_bd (f_X9_copies τ (nI z) 12) fun σ8 => f_X9_update_25 zt_FU σ8 (nI z) 1 0) = some (1, τ') ∧ zRM τ' z R' ∧ τ' 97 z = nI ((se + 1) % 16) ∧ (∀ i, i ≠ z → τ' 97 i = τ 97 i) ∧ (∀ e, e ≠ 94 → e ≠ 97 → e < 103 ∨ 107 < e → τ' e = τ e) ∧ (∀ j, j ≠ 17 → τ' 94 j = τ 94 j) ∧ ∀ t Q, t ≠ 12 → t ≠ z → Q.1 ≤ 32 → zRM τ t Q → zRM τ' t Q
theorem z9up00 {τ : zt_St} {x : Int32} : f_X9_update_50 τ x 0 = some (0, zt_st τ 94 17 0) := rfl
theorem z9upd {τ : zt_St} {Z : Nat × (Nat → Nat)} {R : zR} {T : zT} {a se z : Nat} (hz : z < Z.1) (hr : zRM τ z R) (hO : zOK R a Z) (hT : zTM τ T) (hB : zTB T) (hG : zTG T) (ha : Z.2 z = a) (hZ : zZM τ Z) (hZB : zZB Z) (hs : τ 97 z = nI se) (hse : se < 16) : ∃ τ', zU9 τ τ' z se (zupd R T a Z) ∧ τ' 94 17 = nI 0 := by
  have h20 := hO.1
  have hZ6 := hZB.1
  have hB10 := hB.1
  obtain ⟨τ1, b1, b2, b3⟩ := z9cp (s := z) (o := 12) (by omega) (by omega) (by omega) (by omega) hr
  have b1' : f_X9_copies τ (nI z) 12 = some τ1 := b1
  obtain ⟨τ2, m1, m2⟩ := z9upL (z := z) (by omega) hB (by omega) T.1 0 τ1 R (4999 - T.1) (by omega) (zTM_f hT b3) (b3.2 z R (by omega) (by omega) hr) b2 (by omega)
  rw [← zfu T.1 (by omega), zds_e T.1 0 R (fun j _ hj => hB.2 j (by omega))] at m2
  have hFM : zFM 12 τ τ2 := zFM_t b3 m1
  have base : (∀ e, e ≠ 94 → e < 103 ∨ 107 < e → zt_st τ2 94 17 0 e = τ e) ∧ (∀ j, j ≠ 17 → zt_st τ2 94 17 0 94 j = τ 94 j) ∧ ∀ t Q, t ≠ 12 → Q.1 ≤ 32 → zRM τ t Q → zRM (zt_st τ2 94 17 0) t Q := ⟨fun e h1 h2 => (zst_o h1).trans (hFM.1 e h2), fun j h => (zst_j h).trans (by rw [hFM.1 94 (by omega)]), fun t Q h1 h2 h3 => zRM_f (hFM.2 t Q h1 h2 h3) (fun c _ _ => zst_o (by omega))⟩
  unfold zupd
  have none_case : ∀ o : Option zR, o = none → f_X9_update_25 zt_FU τ1 (nI z) 1 0 = some (0, zt_st τ2 94 17 0) → ∃ τ', zU9 τ τ' z se o ∧ τ' 94 17 = nI 0 := fun o ho h => by
    subst ho
    exact ⟨zt_st τ2 94 17 0, ⟨by rw [b1', zbd_s]; exact h, base⟩, zst_s⟩
  cases hq : (if zmet R T T.1 0 = true then zmd T T.1 0 R else none) with
  | none =>
    rw [hq] at m2
    exact none_case _ rfl m2
  | some R' =>
    rw [hq] at m2
    obtain ⟨m2a, m2b, m2c⟩ := m2
    have hmd : zmd T T.1 0 R = some R' := by
      by_cases c : zmet R T T.1 0 = true
      · rw [if_pos c] at hq; exact hq
      · rw [if_neg c] at hq; cases hq
    have g : zGd R' := zmd_g hG T.1 0 R R' (by omega) ⟨hO.2.1, hO.2.2.1, hO.2.2.2.1⟩ hmd
    have hZ3 : zZM (zt_st τ2 94 17 0) Z := ⟨by rw [base.2.1 2 (by decide)]; exact hZ.1, fun i hi => by rw [base.1 95 (by decide) (by omega)]; exact hZ.2 i hi⟩
    have hR3 : zRM (zt_st τ2 94 17 0) 12 R' := zRM_f m2b (fun c _ _ => zst_o (by omega))
    have F := z9fit (z := z) m2c hR3 g.1 hz ha hZ3 hZB
    rw [zfit_e g.1 (fun i hi => (g.2.1 i hi).1) hZB] at F
    have m2a' : f_X9_update_25 zt_FU τ1 (nI z) 1 0 = f_X9_update_50 τ2 (nI z) (nI 1) := m2a
    show ∃ τ', zU9 τ τ' z se (if zfit R' a Z = true then some R' else none) ∧ τ' 94 17 = nI 0
    by_cases c2 : zfit R' a Z = true
    · rw [if_pos c2]
      have F' : f_X9_fits (zt_st τ2 94 17 0) (nI z) = some (zb true) := by rw [← c2]; exact F
      have r20 : R'.1 ≤ 20 := by
        unfold zfit at c2
        rw [Bool.and_eq_true] at c2
        exact of_decide_eq_true c2.1
      obtain ⟨τ4, t1, t2, t3⟩ := z9cp (s := 12) (o := z) (by omega) (by omega) (by omega) (by omega) hR3
      have q97 : τ4 97 z = nI se := by rw [t3.1 97 (by omega), base.1 97 (by decide) (by omega)]; exact hs
      refine ⟨zt_st τ4 97 z (nI ((se + 1) % 16)), ⟨?_, zRM_f t2 (fun c _ _ => zst_o (by omega)), zst_s, fun i hi => (zst_j hi).trans (by rw [t3.1 97 (by omega), base.1 97 (by decide) (by omega)]), fun e h1 h2 h3 => (zst_o h2).trans ((t3.1 e h3).trans (base.1 e h1 h3)), fun j h => (congrFun (zst_o (by decide)) j).trans ((congrFun (t3.1 94 (by omega)) j).trans (base.2.1 j h)), fun t Q h1 h2 h3 h4 => zRM_f (t3.2 t Q h2 h3 (base.2.2 t Q h1 h3 h4)) (fun c _ _ => zst_o (by omega))⟩, ?_⟩
      · have t1' : f_X9_copies (zt_st τ2 94 17 0) 12 (nI z) = some τ4 := t1
        rw [b1', zbd_s, m2a']
        unfold f_X9_update_50 f_X9_update_72
        rw [zlt_e, if_neg (show ¬ nI 1 = 0 by decide), F', zbd_s, if_neg (show ¬ zb true = 0 by decide), if_neg zn1, t1', zbd_s, zgd_i (by omega) (by decide), zgd_i (by omega) (by decide), nI_clamp (by omega), q97, nI_1, zl_16, pk_rem (by omega) (by omega) (by omega)]
        rfl
      · rw [zst_o (by decide), t3.1 94 (by omega)]; exact zst_s
    · rw [if_neg c2]
      have F' : f_X9_fits (zt_st τ2 94 17 0) (nI z) = some (zb false) := by rw [← Bool.eq_false_iff.mpr c2]; exact F
      refine none_case _ rfl ?_
      rw [m2a']
      unfold f_X9_update_50
      rw [zlt_e, if_neg (show ¬ nI 1 = 0 by decide), F', zbd_s, if_pos (show zb false = 0 from rfl)]
      rfl
theorem zupd_s {R R' : zR} {T : zT} {a : Nat} {Z : Nat × (Nat → Nat)} (h : zupd R T a Z = some R') (hG : zTG T) (hO : zOK R a Z) : zOK R' a Z := by
  unfold zupd at h
  by_cases c : zmet R T T.1 0 = true
  · rw [if_pos c] at h
    cases hq : zmd T T.1 0 R with
    | none => rw [hq] at h; cases h
    | some W =>
      rw [hq] at h
      have h' : (if zfit W a Z = true then some W else none) = some R' := h
      have g : zGd W := zmd_g hG T.1 0 R W (by omega) ⟨hO.2.1, hO.2.2.1, hO.2.2.2.1⟩ hq
      by_cases c2 : zfit W a Z = true
      · rw [if_pos c2] at h'
        have e : W = R' := Option.some.inj h'
        rw [← e]
        unfold zfit at c2
        rw [Bool.and_eq_true] at c2
        exact ⟨of_decide_eq_true c2.1, g.1, g.2.1, g.2.2, c2.2⟩
      · rw [if_neg c2] at h'
        cases h'
  · rw [if_neg c] at h
    cases h
theorem zTTn {σ τ : zt_St} {T : zT} (h1 : σ 69 5 = nI 0) (h2 : τ 94 17 = nI 0) : zTT σ τ (0, T.2) := ⟨⟨h1, fun i hi => absurd hi (Nat.not_lt_zero i)⟩, ⟨h2, fun i hi => absurd hi (Nat.not_lt_zero i)⟩, ⟨Nat.zero_le _, fun i hi => absurd hi (Nat.not_lt_zero i)⟩, fun i hi => absurd hi (Nat.not_lt_zero i)⟩
theorem zc_update {kk : Nat} (hk : kk < 600) (x1 : Int32) : zSim kk (fun σ => f_X8_update σ x1) (fun τ => f_X9_update τ x1) zg3 := by
  intro σ τ hI
  show zSimC kk (f_X8_update σ x1) (f_X9_update τ x1) zg3 σ τ
  obtain ⟨hk6, Z, RS, T, now, cc, t, ⟨hW, a2, a3, a4, a5⟩, hK, hu, hT, hTo, hnow, ht⟩ := id hI
  obtain ⟨hZC, hZM, hB, h0, hz6⟩ := id hW
  obtain ⟨b, b1, b2, b3⟩ := zArZ (σ := σ) (τ := τ) hZC hZM hB x1
  unfold f_X8_update f_X9_update
  rw [b1, b2, zbd_s, z9as1, zbd_s]
  simp only [zlt_e]
  cases b with
  | false => exact zRef hI hk rfl rfl zn3 zn1 (fun _ => rfl)
  | true =>
    obtain ⟨z, hz, e⟩ := b3 rfl
    have h6 := hB.1
    have hz' : z < 6 := by omega
    obtain ⟨⟨r1, r2, r3, r4⟩, ⟨o1, o2, o3⟩, ⟨lf, l0, l1, l2⟩, ⟨se, s0, s1, s2⟩, k1, k2, k3, k4, k5, k6, k7, k8⟩ := hz6 z hz'
    have h20 := o1.1
    have h20' := o2.1
    have ha2 : Z.2 z < 10000 := znm_lt (hB.2.2 z hz)
    obtain ⟨σ', u1, u2⟩ := z3upd hz' r1 o1 hT.1 hT.2.2.1 hT.2.2.2 (hZC.2 z hz) ha2 hZC hB s1 s0
    have hT0 : zTM (zt_st τ 94 0 0) T := ⟨(zst_j (by decide)).trans hT.2.1.1, by rw [zst_o (show 108 ≠ 94 by decide), zst_o (show 109 ≠ 94 by decide), zst_o (show 110 ≠ 94 by decide), zst_o (show 111 ≠ 94 by decide), zst_o (show 112 ≠ 94 by decide)]; exact hT.2.1.2⟩
    have hZ0 : zZM (zt_st τ 94 0 0) Z := ⟨(zst_j (by decide)).trans hZM.1, fun i hi => by rw [zst_o (by decide)]; exact hZM.2 i hi⟩
    obtain ⟨τ', v1, v2⟩ := z9upd (τ := zt_st τ 94 0 0) (a := Z.2 z) hz (zRM_f r3 (fun c _ _ => zst_o (by omega))) o1 hT0 hT.2.2.1 hT.2.2.2 rfl hZ0 hB (by rw [zst_o (by decide)]; exact s2) s0
    rw [if_pos (show true = true from rfl), zbx_0, e, z3at hZC hB hz, zbd_s, zgd_d (zkd5 z hz'), if_neg (show ¬ zb true = 0 by decide), if_pos (show true = true from rfl)]
    cases hq : zupd (RS z) T (Z.2 z) Z with
    | none =>
      rw [hq] at u1 v1
      obtain ⟨w1, w2⟩ := u1
      obtain ⟨y1, y2, y3, y4⟩ := v1
      rw [w1, y1, zbd_s]
      have mo : ∀ a, a ≠ 94 → a < 103 ∨ 107 < a → τ' a = τ a := fun a h1 h2 => (y2 a h1 h2).trans (zst_o h1)
      have mj : ∀ j, j ≠ 0 → j ≠ 17 → τ' 94 j = τ 94 j := fun j h1 h2 => (y3 j h2).trans (zst_j h1)
      have mR : ∀ i Q, i ≠ 12 → Q.1 ≤ 32 → zRM τ i Q → zRM τ' i Q := fun i Q h1 h2 h3 => y4 i Q h1 h2 (zRM_f h3 (fun c _ _ => zst_o (by omega)))
      refine zSuc (v := 0) (σ' := σ') (τ' := τ') rfl rfl ((y3 0 (by decide)).trans zst_s) ⟨hk, Z, RS, (0, T.2), now, cc, t, ⟨zIW_g (z := z) hW (w2 1 (by decide) (by omega)) (fun i hi => by rw [w2 _ (by omega) (by omega)]) (mo 95 (by decide) (by omega)) (mj 2 (by decide) (by decide)) (fun i hi _ => ?_) ?_, by rw [w2 80 (by omega) (by omega)]; exact a2, (mj 1 (by decide) (by decide)).trans a3, by rw [w2 80 (by omega) (by omega), mj 11 (by decide) (by decide)]; exact a4, a5⟩, zIK_f hK (fun a _ _ => w2 a (by omega) (by omega)) (fun a _ _ => mo a (by omega) (by omega)) (mj 24 (by decide) (by decide)), by rw [w2 90 (by omega) (by omega), mo 113 (by decide) (by omega)]; exact hu, zTTn u2 v2, zTo_f hTo (w2 92 (by omega) (by omega)) (mo 121 (by decide) (by omega)), by omega, by omega⟩ (fun a h => w2 a (by omega) (by omega)) (fun a h => mo a (by omega) (by omega))
      · obtain ⟨⟨p1, p2, p3, p4⟩, ⟨x1, x2, _⟩, _⟩ := hz6 i hi
        have g1 := x1.1
        have g2 := x2.1
        exact ⟨rfl, rfl, fun c c1 c2 => w2 c (by omega) (by omega), mR i _ (by omega) (by omega) p3, mR (6 + i) _ (by omega) (by omega) p4, fun a c1 c2 c3 => by rw [mo a (by omega) (by omega)], mo 100 (by decide) (by omega)⟩
      · exact ⟨⟨zRC_f r1 (fun c _ _ => w2 c (by omega) (by omega)), zRC_f r2 (fun c _ _ => w2 c (by omega) (by omega)), mR z _ (by omega) (by omega) r3, mR (6 + z) _ (by omega) (by omega) r4⟩, ⟨o1, o2, o3⟩, zZF_f ⟨⟨lf, l0, l1, l2⟩, ⟨se, s0, s1, s2⟩, k1, k2, k3, k4, k5, k6, k7, k8⟩ (w2 _ (by omega) (by omega)) (fun a _ _ => mo a (by omega) (by omega))⟩
    | some R' =>
      rw [hq] at u1 v1
      obtain ⟨w1, w2, w3, w4, w5⟩ := u1
      obtain ⟨y1, y2, y3, y3b, y4, y5, y6⟩ := v1
      rw [w1, y1, zbd_s]
      have hO' := zupd_s hq hT.2.2.2 o1
      have g20 := hO'.1
      have mo : ∀ a, a ≠ 94 → a ≠ 97 → a < 103 ∨ 107 < a → τ' a = τ a := fun a h1 h2 h3 => (y4 a h1 h2 h3).trans (zst_o h1)
      have mj : ∀ j, j ≠ 0 → j ≠ 17 → τ' 94 j = τ 94 j := fun j h1 h2 => (y5 j h2).trans (zst_j h1)
      have mR : ∀ i Q, i ≠ 12 → i ≠ z → Q.1 ≤ 32 → zRM τ i Q → zRM τ' i Q := fun i Q h1 h2 h3 h4 => y6 i Q h1 h2 h3 (zRM_f h4 (fun c _ _ => zst_o (by omega)))
      have m97 : ∀ i, i ≠ z → τ' 97 i = τ 97 i := fun i h => (y3b i h).trans (by rw [zst_o (by decide)])
      refine zSuc (v := 1) (σ' := σ') (τ' := τ') rfl rfl ((y5 0 (by decide)).trans zst_s) ⟨hk, Z, fun j => if j = z then R' else RS j, (0, T.2), now, cc, t, ⟨zIW_g (z := z) hW (w4 1 (by decide) (by omega) (by omega)) (fun i hi => ?_) (mo 95 (by decide) (by decide) (by omega)) (mj 2 (by decide) (by decide)) (fun i hi hne => ?_) ?_, by rw [w4 80 (by omega) (by omega) (by omega)]; exact a2, (mj 1 (by decide) (by decide)).trans a3, by rw [w4 80 (by omega) (by omega) (by omega), mj 11 (by decide) (by decide)]; exact a4, a5⟩, zIK_f hK (fun a _ _ => w4 a (by omega) (by omega) (by omega)) (fun a _ _ => mo a (by omega) (by omega) (by omega)) (mj 24 (by decide) (by decide)), by rw [w4 90 (by omega) (by omega) (by omega), mo 113 (by decide) (by decide) (by omega)]; exact hu, zTTn u2 v2, zTo_f hTo (w4 92 (by omega) (by omega) (by omega)) (mo 121 (by decide) (by decide) (by omega)), by omega, by omega⟩ (fun a h => w4 a (by omega) (by omega) (by omega)) (fun a h => mo a (by omega) (by omega) (by omega))
      · by_cases c : i = z
        · rw [c]; exact w5 0 (by decide)
        · rw [w4 _ (by omega) (by omega) (by omega)]
      · obtain ⟨⟨p1, p2, p3, p4⟩, ⟨x1, x2, _⟩, _⟩ := hz6 i hi
        have g1 := x1.1
        have g2 := x2.1
        refine ⟨if_neg hne, if_neg (by omega), fun c c1 c2 => w4 c (by omega) (by omega) (by omega), mR i _ (by omega) hne (by omega) p3, mR (6 + i) _ (by omega) (by omega) (by omega) p4, fun a c1 c2 c3 => ?_, mo 100 (by decide) (by decide) (by omega)⟩
        by_cases c : a = 97
        · rw [c]; exact m97 i hne
        · rw [mo a (by omega) c (by omega)]
      · have x1 : (fun j => if j = z then R' else RS j) z = R' := if_pos rfl
        have x2 : (fun j => if j = z then R' else RS j) (6 + z) = RS (6 + z) := if_neg (by omega)
        unfold zZn
        rw [x1, x2]
        refine ⟨⟨w2, zRC_f r2 (fun c c1 c2 => w4 c (by omega) (by omega) (by omega)), y2, mR (6 + z) _ (by omega) (by omega) (by omega) r4⟩, ⟨hO', o2, fun h => absurd hz (by omega)⟩, ⟨lf, l0, (w5 1 (by decide)).trans l1, by rw [mo 96 (by decide) (by decide) (by omega)]; exact l2⟩, ⟨(se + 1) % 16, by omega, w3, y3⟩, ?_, ?_, ?_, ?_, ?_, ?_, ?_, ?_⟩
        · rw [w5 3 (by decide), mo 98 (by decide) (by decide) (by omega)]; exact k1
        · rw [mo 98 (by decide) (by decide) (by omega)]; exact k2
        · rw [w5 4 (by decide), mo 99 (by decide) (by decide) (by omega)]; exact k3
        · rw [mo 99 (by decide) (by decide) (by omega)]; exact k4
        · rw [w5 5 (by decide), mo 100 (by decide) (by decide) (by omega)]; exact k5
        · rw [w5 6 (by decide), mo 100 (by decide) (by decide) (by omega)]; exact k6
        · rw [w5 7 (by decide), mo 101 (by decide) (by decide) (by omega)]; exact k7
        · rw [w5 8 (by decide), mo 102 (by decide) (by decide) (by omega)]; exact k8
