/-! a new zone, in both; what stays true of sets -/
theorem zOK0 {R : zR} {a : Nat} {Z : Nat × (Nat → Nat)} (h : R.1 = 0) : zOK R a Z := by
  refine ⟨by omega, fun i hi => absurd hi (by omega), fun i hi => absurd hi (by omega), fun i j hi => absurd hi (by omega), ?_⟩
  rw [h]
  rfl
theorem zOKm {R : zR} {a : Nat} {Z Z' : Nat × (Nat → Nat)} (h : zOK R a Z) (hz : ∀ v p, zia Z v p = true → zia Z' v p = true) : zOK R a Z' := by
  obtain ⟨h1, h2, h3, h4, h5⟩ := h
  refine ⟨h1, h2, h3, h4, (zal_c _ _ _).mpr fun j a1 a2 => ?_⟩
  have q := (zal_c _ _ _).mp h5 j a1 a2
  unfold zrf at q ⊢
  by_cases c3 : zS R j = 3
  · rw [if_neg (by omega), if_neg (by omega), if_pos c3] at q ⊢
    rw [Bool.and_eq_true, Bool.and_eq_true] at q
    rw [Bool.and_eq_true, Bool.and_eq_true]
    exact ⟨q.1, q.2.1, hz _ _ q.2.2⟩
  · rw [if_neg c3] at q ⊢
    exact q
theorem z9zo1 {τ : zt_St} {Z : Nat × (Nat → Nat)} {x y : Int32} {u b l : Bool} (hZ : zZM τ Z) (hB : zZB Z) (hb : f_X9_isName x = some (zb b)) (hl : f_X9_in y 1 50 = some (zb l)) : f_X9_zone_18 1 τ x y (zb u) (nI Z.1) = f_X9_zone_79 τ (zb ((b && !(decide (x ≤ 0))) && l)) x y (zb u) := by
  rw [show (1 : Nat) = 0 + 1 from rfl, zs_zon]
  unfold f_X9_zone_18b f_X9_zone_78
  rw [hZ.1, if_pos (nI_le (Nat.le_refl _) (by have := hB.1; omega)), hb, hl, zbd_s]
  by_cases c : x ≤ 0
  · rw [if_pos c, decide_eq_true c]
    cases b <;> rfl
  · rw [if_neg c, decide_eq_false c]
    cases b <;> cases l <;> rfl
theorem z9zone {τ : zt_St} {Z : Nat × (Nat → Nat)} {x y : Int32} {b l : Bool} (hZ : zZM τ Z) (hB : zZB Z) (hb : f_X9_isName x = some (zb b)) (hl : f_X9_in y 1 50 = some (zb l)) : f_X9_zone τ x y = f_X9_zone_79 τ (zb ((b && !(decide (x ≤ 0))) && l)) x y (zb (decide (Z.1 < 6) && !(zan (zia2 Z x) Z.1 0))) := by
  have h6 := hB.1
  unfold f_X9_zone f_X9_zone_14
  have key : ∀ c, f_X9_zone_18 zt_FU τ x y (zb c) 0 = f_X9_zone_79 τ (zb ((b && !(decide (x ≤ 0))) && l)) x y (zb (c && !(zan (zia2 Z x) Z.1 0))) := fun c => by
    rw [zfu Z.1 (by omega), zl_0]
    rw [z9zoL hZ hB Z.1 0 c _ (by omega)]
    exact z9zo1 hZ hB hb hl
  rw [hZ.1, zl_6]
  by_cases c1 : Z.1 < 6
  · rw [if_neg (nI_ge c1 (by omega)), decide_eq_true c1]
    exact key true
  · rw [if_pos (nI_le (by omega) (by omega)), decide_eq_false c1]
    exact key false
def zcZ (τ : zt_St) (n : Nat) (x y : Int32) : zt_St := zt_st (zt_st (zt_st (zt_st τ 94 0 0) 95 n x) 96 n y) 94 2 (nI (n + 1))
theorem z79N {τ : zt_St} {x y : Int32} {a u : Bool} (h : (a && u) = false) : f_X9_zone_79 τ (zb a) x y (zb u) = some (0, zt_st τ 94 0 (if a = true then 2 else 1)) := by
  unfold f_X9_zone_79
  rw [z9as2, h]
  cases a with
  | false => rfl
  | true =>
    cases u with
    | false => rfl
    | true => cases h
theorem z79Y {τ : zt_St} {x y : Int32} {n : Nat} (h : τ 94 2 = nI n) (hn : n < 6) : f_X9_zone_79 τ (zb true) x y (zb true) = some (nI n, zcZ τ n x y) := by
  have g : ∀ s : zt_St, (zt_st s 94 2 (nI (n + 1))) 94 2 = nI (n + 1) := fun s => zst_s
  have h' : zt_st τ 94 0 0 94 2 = nI n := (zst_j (by decide)).trans h
  unfold f_X9_zone_79
  rw [show f_X9_asked_ τ (zb true) (zb true) = some (zb true, zt_st τ 94 0 0) from z9as2 (a := true) (b := true), zbd_s]
  simp only [zlt_e]
  rw [if_neg (show ¬ zb true = 0 by decide)]
  simp only [zst_o (show 94 ≠ 95 by decide), zst_o (show 94 ≠ 96 by decide), h', zgd_i (show n < 6 by omega) (show 6 < 2 ^ 31 by decide), nI_clamp (show n < 2 ^ 31 by omega), nI_1, g, nI_pred]
  rfl
def zcY (σ : zt_St) (n : Nat) (x y : Int32) : zt_St := zt_st (zt_st (zt_st σ 1 1 (nI (n + 1))) (3 + 11 * n) 0 x) (3 + 11 * n) 1 y
theorem z7make {σ : zt_St} {x y : Int32} {n : Nat} (h : σ 1 1 = nI n) (hn : n < 6) : f_X7_make σ x y = some (nI n, zcY σ n x y) := by
  unfold f_X7_make f_X7_at
  rw [h, nI_1, zlt_e, zst_s, if_neg (nI_pos (by omega)), if_neg (nI_ge (by omega) (by omega)), zl_6, if_neg (nI_ge hn (by omega)), zgd_i hn (by decide), nI_clamp (by omega), zgd_d (zkd5 n hn), zbd_s, zgd_d (zkd5 n hn)]
  rfl
def zZp (Z : Nat × (Nat → Nat)) (a : Nat) : Nat × (Nat → Nat) := (Z.1 + 1, fun i => if i = Z.1 then a else Z.2 i)
theorem zINVz {kk : Nat} (hk : kk < 600) {σ τ : zt_St} {Z : Nat × (Nat → Nat)} {RS : Nat → zR} {T : zT} {now cc t a l : Nat} (hk6 : kk ≤ 600) (hJ : zJ1 σ τ Z RS now) (hK : zIK σ τ cc now t) (hu : σ 90 = τ 113) (hT : zTT σ τ T) (hTo : zTo σ τ) (hnow : now ≤ 100 * kk) (ht : t ≤ 12 * kk) (hn : Z.1 < 6) (ha : znm a = true) (hl : l ≤ 50) : zINV (kk + 1) (zcY σ Z.1 (nI a) (nI l)) (zcZ τ Z.1 (nI a) (nI l)) := by
  obtain ⟨⟨⟨c1, c2⟩, ⟨d1, d2⟩, ⟨e1, e2, e3⟩, h0, hz6⟩, a2, a3, a4, a5⟩ := hJ
  have so : ∀ z, z ≠ 1 → z ≠ 3 + 11 * Z.1 → zcY σ Z.1 (nI a) (nI l) z = σ z := fun z h1 h2 => by
    unfold zcY
    rw [zst_o h2, zst_o h2, zst_o h1]
  have sj : ∀ j, j ≠ 0 → j ≠ 1 → zcY σ Z.1 (nI a) (nI l) (3 + 11 * Z.1) j = σ (3 + 11 * Z.1) j := fun j h1 h2 => by
    unfold zcY
    rw [zst_j h2, zst_j h1, zst_o (by omega)]
  have s0 : zcY σ Z.1 (nI a) (nI l) (3 + 11 * Z.1) 0 = nI a := by unfold zcY; rw [zst_j (by decide), zst_s]
  have s1 : zcY σ Z.1 (nI a) (nI l) (3 + 11 * Z.1) 1 = nI l := by unfold zcY; rw [zst_s]
  have s11 : zcY σ Z.1 (nI a) (nI l) 1 1 = nI (Z.1 + 1) := by unfold zcY; rw [zst_o (by omega), zst_o (by omega), zst_s]
  have mo : ∀ z, z < 94 ∨ 96 < z → zcZ τ Z.1 (nI a) (nI l) z = τ z := fun z h => by
    unfold zcZ
    rw [zst_o (by omega), zst_o (by omega), zst_o (by omega), zst_o (by omega)]
  have mj : ∀ j, j ≠ 0 → j ≠ 2 → zcZ τ Z.1 (nI a) (nI l) 94 j = τ 94 j := fun j h1 h2 => by
    unfold zcZ
    rw [zst_j h2, zst_o (by omega), zst_o (by omega), zst_j h1]
  have m2 : zcZ τ Z.1 (nI a) (nI l) 94 2 = nI (Z.1 + 1) := by unfold zcZ; rw [zst_s]
  have m95 : ∀ j, zcZ τ Z.1 (nI a) (nI l) 95 j = if j = Z.1 then nI a else τ 95 j := fun j => by
    unfold zcZ
    rw [zst_o (by decide), zst_o (by decide)]
    exact zst_if.trans (by rw [zst_o (by decide)])
  have m96 : ∀ j, zcZ τ Z.1 (nI a) (nI l) 96 j = if j = Z.1 then nI l else τ 96 j := fun j => by
    unfold zcZ
    rw [zst_o (by decide)]
    exact zst_if.trans (by rw [zst_o (by decide), zst_o (by decide)])
  generalize zcY σ Z.1 (nI a) (nI l) = σ' at so sj s0 s1 s11
  generalize zcZ τ Z.1 (nI a) (nI l) = τ' at mo mj m2 m95 m96
  have hia : ∀ v p, zia Z v p = true → zia (zZp Z a) v p = true := fun v p h => by
    have q := of_decide_eq_true h
    refine decide_eq_true ⟨by show v < Z.1 + 1; omega, ?_⟩
    show (if v = Z.1 then a else Z.2 v) = p
    rw [if_neg (by omega)]
    exact q.2
  refine ⟨hk, zZp Z a, RS, T, now, cc, t, ⟨⟨⟨s11, fun i hi => ?_⟩, ⟨m2, fun i hi => ?_⟩, ⟨hn, by show 1 ≤ Z.1 + 1; omega, fun i hi => ?_⟩, ?_, fun i hi => ?_⟩, by rw [so 80 (by omega) (by omega)]; exact a2, (mj 1 (by decide) (by decide)).trans a3, by rw [so 80 (by omega) (by omega), mj 11 (by decide) (by decide)]; exact a4, a5⟩, zIK_f hK (fun z _ _ => so z (by omega) (by omega)) (fun z _ _ => mo z (by omega)) (mj 24 (by decide) (by decide)), by rw [so 90 (by omega) (by omega), mo 113 (by omega)]; exact hu, zTT_f hT (fun z _ _ => so z (by omega) (by omega)) (fun z _ _ => mo z (by omega)) (mj 17 (by decide) (by decide)), zTo_f hTo (so 92 (by omega) (by omega)) (mo 121 (by omega)), by omega, by omega⟩
  · have hi' : i < Z.1 + 1 := hi
    show _ = nI (if i = Z.1 then a else Z.2 i)
    by_cases q : i = Z.1
    · rw [if_pos q, q]; exact s0
    · rw [if_neg q, so _ (by omega) (by omega)]; exact c2 i (by omega)
  · have hi' : i < Z.1 + 1 := hi
    show _ = nI (if i = Z.1 then a else Z.2 i)
    rw [m95]
    by_cases q : i = Z.1
    · rw [if_pos q, if_pos q]
    · rw [if_neg q, if_neg q]; exact d2 i (by omega)
  · have hi' : i < Z.1 + 1 := hi
    show znm (if i = Z.1 then a else Z.2 i) = true
    by_cases q : i = Z.1
    · rw [if_pos q]; exact ha
    · rw [if_neg q]; exact e3 i (by omega)
  · show (if 0 = Z.1 then a else Z.2 0) = 0
    rw [if_neg (by omega)]; exact h0
  · obtain ⟨⟨r1, r2, r3, r4⟩, ⟨o1, o2, o3⟩, f⟩ := hz6 i hi
    have hap : i ≠ Z.1 → (zZp Z a).2 i = Z.2 i := fun q => if_neg q
    refine ⟨⟨zRC_f r1 (fun c _ _ => so c (by omega) (by omega)), zRC_f r2 (fun c _ _ => so c (by omega) (by omega)), zRM_f r3 (fun c _ _ => mo c (by omega)), zRM_f r4 (fun c _ _ => mo c (by omega))⟩, ⟨?_, ?_, fun h => o3 (by have : Z.1 + 1 ≤ i := h; omega)⟩, ?_⟩
    · by_cases q : i = Z.1
      · exact zOK0 (o3 (by omega)).1
      · rw [hap q]; exact zOKm o1 hia
    · by_cases q : i = Z.1
      · exact zOK0 (o3 (by omega)).2
      · rw [hap q]; exact zOKm o2 hia
    · by_cases q : i = Z.1
      · obtain ⟨_, ⟨se, g0, g1, g2⟩, k1, k2, k3, k4, k5, k6, k7, k8⟩ := f
        subst q
        refine ⟨⟨l, hl, s1, by rw [m96, if_pos rfl]⟩, ⟨se, g0, (sj 2 (by decide) (by decide)).trans g1, by rw [mo 97 (by omega)]; exact g2⟩, ?_, ?_, ?_, ?_, ?_, ?_, ?_, ?_⟩
        · rw [sj 3 (by decide) (by decide), mo 98 (by omega)]; exact k1
        · rw [mo 98 (by omega)]; exact k2
        · rw [sj 4 (by decide) (by decide), mo 99 (by omega)]; exact k3
        · rw [mo 99 (by omega)]; exact k4
        · rw [sj 5 (by decide) (by decide), mo 100 (by omega)]; exact k5
        · rw [sj 6 (by decide) (by decide), mo 100 (by omega)]; exact k6
        · rw [sj 7 (by decide) (by decide), mo 101 (by omega)]; exact k7
        · rw [sj 8 (by decide) (by decide), mo 102 (by omega)]; exact k8
      · refine zZF_p f (so _ (by omega) (by omega)) (fun z h1 h2 h3 => ?_) (by rw [mo 100 (by omega)]) (by rw [mo 100 (by omega)])
        by_cases q2 : z = 96
        · rw [q2, m96, if_neg q]
        · rw [mo z (by omega)]
theorem zc_zone {kk : Nat} (hk : kk < 600) (x1 x2 : Int32) : zSim kk (fun σ => f_X8_zone σ x1 x2) (fun τ => f_X9_zone τ x1 x2) zg12 := by
  intro σ τ hI
  show zSimC kk (f_X8_zone σ x1 x2) (f_X9_zone τ x1 x2) zg12 σ τ
  obtain ⟨hk6, Z, RS, T, now, cc, t, hJ, hK, hu, hT, hTo, hnow, ht⟩ := id hI
  obtain ⟨⟨hZC, hZM, hB, h0, hz6⟩, a2, a3, a4, a5⟩ := id hJ
  obtain ⟨b, b1, b2, b3⟩ := zArN x1
  obtain ⟨l, l1, l2, l3⟩ := zArL x2
  have h6 := hB.1
  have h7 := hB.2.1
  rw [z9zone hZM hB b2 l2]
  unfold f_X8_zone f_X8_zone_18 f_X8_zone_51
  rw [b1]
  cases b with
  | false =>
    rw [z79N (a := (false && !(decide (x1 ≤ 0))) && l) rfl]
    refine zRef hI hk (e := 1) (v := 0) (w := 0) (x := 1) ?_ rfl zn1 zn1 (fun _ => rfl)
    by_cases c : x1 = 0
    · rw [if_pos c]
    · rw [if_neg c]; rfl
  | true =>
    obtain ⟨n, en, hn⟩ := b3 rfl
    have hn4 := znm_lt hn
    rw [en]
    by_cases c : n = 0
    · rw [if_pos (show nI n = 0 by rw [c]; rfl), decide_eq_true (show nI n ≤ 0 by rw [c]; decide), z79N (a := (true && !true) && l) rfl]
      exact zRef hI hk rfl rfl zn1 zn1 (fun _ => rfl)
    · rw [if_neg (nI_ne0 (by omega) (by omega)), decide_eq_false (show ¬ nI n ≤ 0 from nI_nle (by omega) (by omega)), zbd_s, if_neg (show ¬ zb true = 0 by decide), l1, zbd_s]
      cases l with
      | false =>
        rw [if_pos (show zb false = 0 from rfl), z79N (a := (true && !false) && false) rfl]
        exact zRef hI hk rfl rfl zn1 zn1 (fun _ => rfl)
      | true =>
        obtain ⟨w, hw, ew⟩ := l3 rfl
        rw [if_neg (show ¬ zb true = 0 by decide), hZC.1, zl_6]
        by_cases c6 : Z.1 < 6
        · rw [if_neg (nI_ge c6 (by omega)), decide_eq_true c6, z3ioa hZC hB, zbd_s]
          cases zan (zia2 Z (nI n)) Z.1 0 with
          | true =>
            rw [if_neg (show ¬ zb true = 0 by decide), z79N (a := (true && !false) && true) (u := true && !true) rfl]
            exact zRef hI hk rfl rfl zn2 zn2 (fun _ => rfl)
          | false =>
            rw [if_pos (show zb false = 0 from rfl), ew, z7make hZC.1 c6, zbd_s, show f_X9_zone_79 τ (zb ((true && !false) && true)) (nI n) (nI w) (zb (true && !false)) = _ from z79Y hZM.1 c6]
            refine zSuc (v := nI Z.1) (σ' := zcY σ Z.1 (nI n) (nI w)) (τ' := zcZ τ Z.1 (nI n) (nI w)) rfl rfl ?_ (zINVz hk hk6 hJ hK hu hT hTo hnow ht c6 hn hw) (fun z h => ?_) (fun z h => ?_)
            · unfold zcZ
              rw [zst_j (by decide), zst_o (by decide), zst_o (by decide), zst_s]
            · unfold zcY
              rw [zst_o (by omega), zst_o (by omega), zst_o (by omega)]
            · unfold zcZ
              rw [zst_o (by omega), zst_o (by omega), zst_o (by omega), zst_o (by omega)]
        · rw [if_pos (nI_le (by omega) (by omega)), decide_eq_false c6, z79N (a := (true && !false) && true) (u := false && _) rfl]
          exact zRef hI hk rfl rfl zn2 zn2 (fun _ => rfl)
