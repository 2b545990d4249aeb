/-! a zone is asked, names are resolved, in both -/
theorem zrl {r : zAn} {R : zR} {σ : zt_St} {k : Nat} : zwr σ k R r k 0 = nI r.1 ∧ zwr σ k R r k 1 = (if r.1 = 0 then r.2.1 else -1) ∧ zwr σ k R r k 2 = r.2.2.1 ∧ zwr σ k R r k 3 = r.2.2.2 := by
  unfold zwr
  by_cases c : r.1 = 3
  · rw [if_pos c]
    refine ⟨?_, ?_, ?_, ?_⟩
    · rw [zst_j (by decide), zst_j (by decide), zte_0, c]
    · rw [zst_j (by decide), zst_j (by decide), zte_1, if_neg (by omega)]
    · rw [zst_j (by decide), zst_j (by decide), zte_2]
    · rw [zst_j (by decide), zst_j (by decide), zte_3]
  · rw [if_neg c]
    exact ⟨zte_0, zte_1, zte_2, zte_3⟩
theorem zc_ask {kk : Nat} (hk : kk < 600) (x1 x2 x3 : Int32) : zSim kk (fun σ => f_X8_ask σ x1 x2 x3) (fun τ => f_X9_ask τ x1 x2 x3) zg312 := by
  intro σ τ hI
  show zSimC kk (f_X8_ask σ x1 x2 x3) (f_X9_ask τ x1 x2 x3) zg312 σ τ
  obtain ⟨hk6, Z, RS, T, now, c, t, hJJ, hK, hu, hT, hTo, hnow, ht⟩ := id hI
  obtain ⟨⟨hZC, hZM, hB, h0, hz6⟩, a2, a3, a4, a5⟩ := id hJJ
  obtain ⟨b, b1, b2, b3⟩ := zArZ (σ := σ) (τ := τ) hZC hZM hB x1
  obtain ⟨p, p1, p2, p3⟩ := zArN x2
  obtain ⟨s, s1, s2, s3⟩ := zArS x3
  have h6 := hB.1
  have e9 : f_X9_ask τ x1 x2 x3 = f_X9_ask_21 τ (zb (p && s)) x1 x2 x3 := by
    unfold f_X9_ask f_X9_ask_20
    rw [p2, s2]
    cases p <;> cases s <;> rfl
  rw [e9]
  unfold f_X8_ask f_X9_ask_21 f_X9_ask_61
  rw [b1, b2, zbd_s, zbd_s]
  cases b with
  | false =>
    rw [if_pos (show zb false = 0 from rfl)]
    unfold f_X9_ask_62
    rw [zl_0, show nI 0 = zb false from rfl, z9as3, zbd_s]
    exact zRef hI hk rfl rfl zn3 zn1 (fun _ => rfl)
  | true =>
    obtain ⟨z, hz, e⟩ := b3 rfl
    rw [if_pos (show true = true from rfl), zbx_0, zCns p1 s1, if_neg (show ¬ zb true = 0 by decide)]
    by_cases c1 : (p && s) = true
    · have c1' := c1
      rw [Bool.and_eq_true] at c1
      obtain ⟨n, en, hn⟩ := p3 c1.1
      obtain ⟨m, hm, em⟩ := s3 c1.2
      have ha2 : Z.2 z < 10000 := znm_lt (hB.2.2 z hz)
      have hn4 := znm_lt hn
      obtain ⟨⟨r1, r2, r3, r4⟩, ⟨o1, o2, o3⟩, ⟨lf, l0, l1, l2⟩, _⟩ := hz6 z (by omega)
      have h20 := o1.1
      obtain ⟨hFS, hAL⟩ := zOKf o1
      rw [c1', if_pos (show true = true from rfl), zbx_0, if_neg (show ¬ zb true = 0 by decide), e, z3at hZC hB hz, zbd_s, zgd_d (zkd5 z (by omega)), hZC.2 z hz, en, em, z3un hn4 (by omega), zbd_s, zgd_i (by omega) (by decide), nI_clamp (by omega), hZM.2 z hz, z9un hn4 ha2, zbd_s]
      unfold f_X9_ask_62
      by_cases c2 : zun n (Z.2 z) = true
      · rw [c2, if_neg (show ¬ zb true = 0 by decide), if_neg (show ¬ zb true = 0 by decide), show f_X9_asked__ τ (zb true) (zb true) 1 = some (zb true, zt_st τ 94 0 0) from z9as3 (a := true) (b := true) (c := true), zbd_s]
        simp only [zlt_e]
        rw [if_neg (show ¬ zb true = 0 by decide)]
        have A := z3ans (k4 := 92) o1.2.1 hFS hm (Or.inr (by omega)) ha2 l0 (zK1 (by omega) o1.1) r1 (hZC.2 z hz) l1 hn
        obtain ⟨τ1, B1, B2, B3⟩ := z9asks (t := z) (z := z) (σ := zt_st τ 94 0 0) ⟨by omega, by omega⟩ o1.2.1 hFS hAL (by omega) ha2 l0 hm (zRM_f r3 (fun c _ _ => zst_o (by omega))) (by rw [zst_o (by decide)]; exact hZM.2 z hz) (by rw [zst_o (by decide)]; exact l2) hn c2
        obtain ⟨q1, q2, q3, q4⟩ := zas_c (lf := lf) (s := m) (a := Z.2 z) o1.2.1 hFS l0 9 1 n 50 hn (by omega) (by omega)
        generalize zas (RS z) (Z.2 z) lf m 9 1 n 50 = r at A B1 B3 q1 q2 q3 q4
        rw [A, zbd_s, B1, zbd_s]
        have E9 : (if nI r.1 = 0 then f_X9_ask_94 τ1 (τ1 94 32) (nI r.1) else f_X9_ask_94 τ1 (-1) (nI r.1)) = some (nI r.1, ztl τ1 (if r.1 = 0 then r.2.1 else -1) r.2.2.1 r.2.2.2 1 0) := by
          unfold f_X9_ask_94
          rw [z9tel, z9tel, zbd_s, zbd_s, B3.1, B3.2.1]
          by_cases c0 : r.1 = 0
          · rw [if_pos (show nI r.1 = 0 by rw [c0]; rfl), if_pos c0, B3.2.2 (Or.inl c0)]
          · rw [if_neg (nI_ne0 (by omega) (by omega)), if_neg c0]
        obtain ⟨w0, w1, w2, w3⟩ := @zrl r (RS z) σ 92
        obtain ⟨u0, u1, u2, u3, u4⟩ := @ztl_v τ1 (if r.1 = 0 then r.2.1 else -1) r.2.2.1 r.2.2.2 1 0
        have so : ∀ a, a ≠ 92 → zt_st (zt_st (zwr σ 92 (RS z) r) 92 4 1) 92 5 0 a = σ a := fun a h => (zst_o h).trans ((zst_o h).trans (zwr_o h))
        have s0 : zt_st (zt_st (zwr σ 92 (RS z) r) 92 4 1) 92 5 0 92 0 = nI r.1 := by rw [zst_j (by decide), zst_j (by decide)]; exact w0
        have mo : ∀ a, a ≠ 94 → a ≠ 121 → ztl τ1 (if r.1 = 0 then r.2.1 else -1) r.2.2.1 r.2.2.2 1 0 a = τ a := fun a h h2 => (ztl_o h2).trans ((B2.1 a h).trans (zst_o h))
        have mj : ∀ j, j ≠ 0 → j ≠ 32 → j ≠ 33 → j ≠ 34 → ztl τ1 (if r.1 = 0 then r.2.1 else -1) r.2.2.1 r.2.2.2 1 0 94 j = τ 94 j := fun j a b c d => (congrFun (ztl_o (by decide)) j).trans ((B2.2 j b c d).trans (zst_j a))
        refine zSuc (v := nI r.1) (σ' := zt_st (zt_st (zwr σ 92 (RS z) r) 92 4 1) 92 5 0) (τ' := ztl τ1 (if r.1 = 0 then r.2.1 else -1) r.2.2.1 r.2.2.2 1 0) ?_ E9 ?_ ⟨hk, Z, RS, T, now, c, t, ⟨zIW_f hJJ.1 (fun a _ => so a (by omega)) (fun a _ _ => mo a (by omega) (by omega)) (mj 2 (by decide) (by decide) (by decide) (by decide)), by rw [so 80 (by decide)]; exact a2, (mj 1 (by decide) (by decide) (by decide) (by decide)).trans a3, by rw [so 80 (by decide), mj 11 (by decide) (by decide) (by decide) (by decide)]; exact a4, a5⟩, zIK_f hK (fun a _ _ => so a (by omega)) (fun a _ _ => mo a (by omega) (by omega)) (mj 24 (by decide) (by decide) (by decide) (by decide)), by rw [so 90 (by decide), mo 113 (by decide) (by decide)]; exact hu, zTT_f hT (fun a _ _ => so a (by omega)) (fun a _ _ => mo a (by omega) (by omega)) (mj 17 (by decide) (by decide) (by decide) (by decide)), Or.inr ⟨by rw [s0]; exact zm1 (by omega), u0.trans ?_, u1.trans ?_, u2.trans ?_, u3.trans ?_, u4.trans ?_, ?_⟩, by omega, by omega⟩ (fun a h => so a (by omega)) (fun a h => mo a (by omega) (by omega))
        · rw [s0]
        · rw [ztl_o (by decide), B2.2 0 (by decide) (by decide) (by decide)]; exact zst_s
        · rw [zst_j (by decide), zst_j (by decide)]; exact w1.symm
        · rw [zst_j (by decide), zst_j (by decide)]; exact w2.symm
        · rw [zst_j (by decide), zst_j (by decide)]; exact w3.symm
        · rw [zst_j (by decide), zst_s]
        · rw [zst_s]
        · exact Or.inl zst_s
      · rw [Bool.eq_false_iff.mpr c2, if_pos (show zb false = 0 from rfl), if_pos (show zb false = 0 from rfl), show f_X9_asked__ τ (zb true) (zb true) 0 = some (zb false, zt_st τ 94 0 3) from z9as3 (a := true) (b := true) (c := false), zbd_s]
        exact zRef hI hk rfl rfl zn2 zn3 (fun _ => rfl)
    · rw [if_neg c1, Bool.eq_false_iff.mpr c1, zbx_e zn1, if_pos (show zb false = 0 from rfl)]
      unfold f_X9_ask_62
      rw [zl_0, show nI 0 = zb false from rfl, z9as3, zbd_s]
      exact zRef hI hk rfl rfl zn1 zn2 (fun _ => rfl)
theorem z9isa {x y : Int32} {a b : Bool} (h1 : f_X9_isName x = some (zb a)) (h2 : f_X9_in y 0 4 = some (zb b)) : f_X9_isAsked x y = some (zb (a && b)) := by
  unfold f_X9_isAsked
  rw [h1, h2]
  cases a <;> cases b <;> rfl
theorem zc_res {kk : Nat} (hk : kk < 600) {σ τ : zt_St} (hI : zINV kk σ τ) {k n s : Nat} (aw tl : Bool) (hkk : k = 92 ∨ k = 93) (htl : tl = true ↔ k = 92) (hn : znm n = true) (hs : s < 5) : ∃ σ' τ' kd, f_X5_run σ (nI n) (nI s) (zb aw) k = some σ' ∧ f_X9_resolves (zt_st τ 94 0 0) (nI n) (nI s) (zb aw) (zb tl) = some (nI kd, τ') ∧ σ' k 0 = nI kd ∧ (kd = 0 ∨ kd = 1 ∨ kd = 2 ∨ kd = 6) ∧ (kd ≠ 6 → σ' 80 14 = τ' 94 36) ∧ τ' 94 0 = 0 ∧ zINV (kk + 1) σ' τ' ∧ (∀ a, 94 ≤ a → σ' a = σ a) ∧ (∀ a, a < 94 ∨ a = 122 → τ' a = τ a) := by
  obtain ⟨hk6, Z, RS, T, now, c, t, hJJ, hK, hu, hT, hTo, hnow, ht⟩ := id hI
  have hJ1 : zJ1 σ (zt_st τ 94 0 0) Z RS now := ⟨zIW_f hJJ.1 (fun _ _ => rfl) (fun a _ _ => zst_o (by omega)) (zst_j (by decide)), hJJ.2.1, (zst_j (by decide)).trans hJJ.2.2.1, hJJ.2.2.2.1.trans (zst_j (by decide)).symm, hJJ.2.2.2.2⟩
  obtain ⟨σ', τ', kd, c', t', e1, e2, e3, e4, e5, e6, e7, e8, e9, e10, e11, e12⟩ := @zRunA Z RS now (12 * kk + 12) k n s c t aw tl σ (zt_st τ 94 0 0) hkk (by omega) hJ1 (zIK_f hK (fun _ _ _ => rfl) (fun a _ _ => zst_o (by omega)) (zst_j (by decide))) (by omega) (by rw [zst_o (by decide)]; exact hu) hn hs
  have mj : ∀ j, j ≠ 0 → j ≠ 24 → j ≠ 32 → j ≠ 33 → j ≠ 34 → j ≠ 36 → τ' 94 j = τ 94 j := fun j z a b c d e => (e7.2 j a b c d e).trans (zst_j z)
  have mo : ∀ a, a < 94 ∨ 94 < a ∧ a < 113 ∨ 121 < a → τ' a = τ a := fun a h => (e7.1 a h).trans (zst_o (by omega))
  refine ⟨σ', τ', kd, e1, e2, e9, e8, e12, (e7.2 0 (by decide) (by decide) (by decide) (by decide) (by decide)).trans zst_s, ⟨hk, Z, RS, T, now, c', t', ⟨zIW_f hJJ.1 (fun a h => e6.1 a (by omega)) (fun a _ _ => mo a (by omega)) (mj 2 (by decide) (by decide) (by decide) (by decide) (by decide) (by decide)), e6.2.1.trans hJJ.2.1, (mj 1 (by decide) (by decide) (by decide) (by decide) (by decide) (by decide)).trans hJJ.2.2.1, (e6.2.2.trans hJJ.2.2.2.1).trans (mj 11 (by decide) (by decide) (by decide) (by decide) (by decide) (by decide)).symm, hJJ.2.2.2.2⟩, e3, e5, zTT_f hT (fun a _ _ => e6.1 a (by omega)) (fun a _ _ => mo a (by omega)) (mj 17 (by decide) (by decide) (by decide) (by decide) (by decide) (by decide)), ?_, by omega, by omega⟩, fun a h => e6.1 a (by omega), fun a h => mo a (by omega)⟩
  cases tl with
  | true =>
    have hk92 := htl.mp rfl
    have q := e11 rfl
    rw [hk92] at q e9
    exact Or.inr ⟨by rw [e9]; exact zm1 (by omega), q⟩
  | false =>
    have hk93 : k = 93 := by
      rcases hkk with h | h
      · exact absurd (htl.mpr h) (by decide)
      · exact h
    exact zTo_f hTo (e6.1 92 (by omega)) ((e10 rfl).trans (zst_o (by decide)))
theorem zc_resolve {kk : Nat} (hk : kk < 600) (x1 x2 : Int32) : zSim kk (fun σ => f_X8_resolve σ x1 x2) (fun τ => f_X9_resolve τ x1 x2) zg1 := by
  intro σ τ hI
  show zSimC kk (f_X8_resolve σ x1 x2) (f_X9_resolve τ x1 x2) zg1 σ τ
  obtain ⟨p, p1, p2, p3⟩ := zArN x1
  obtain ⟨s, s1, s2, s3⟩ := zArS x2
  unfold f_X8_resolve f_X9_resolve
  rw [zCns p1 s1, z9isa p2 s2, zbd_s, z9as1, zbd_s]
  simp only [zlt_e]
  by_cases c1 : (p && s) = true
  · rw [c1]
    rw [Bool.and_eq_true] at c1
    obtain ⟨n, en, hn⟩ := p3 c1.1
    obtain ⟨m, hm, em⟩ := s3 c1.2
    rw [if_pos (show true = true from rfl), zbx_0, if_neg (show ¬ zb true = 0 by decide), en, em]
    obtain ⟨σ', τ', kd, e1, e2, e3, e4, e5, e6, e7, e8, e9⟩ := zc_res hk hI (k := 92) false true (by omega) (by decide) hn hm
    have e1' : f_X5_run σ (nI n) (nI m) 0 92 = some σ' := e1
    have e2' : f_X9_resolves (zt_st τ 94 0 0) (nI n) (nI m) 0 1 = some (nI kd, τ') := e2
    rw [e1', e2', zbd_s, zbd_s, e3]
    exact zSuc (v := nI kd) rfl rfl e6 e7 e8 e9
  · rw [Bool.eq_false_iff.mpr c1]
    exact zRef hI hk rfl rfl zn1 zn1 (fun _ => rfl)
theorem zc_resolveAnew {kk : Nat} (hk : kk < 600) (x1 x2 : Int32) : zSim kk (fun σ => f_X8_resolveAnew σ x1 x2) (fun τ => f_X9_resolveAnew τ x1 x2) zg1 := by
  intro σ τ hI
  show zSimC kk (f_X8_resolveAnew σ x1 x2) (f_X9_resolveAnew τ x1 x2) zg1 σ τ
  obtain ⟨p, p1, p2, p3⟩ := zArN x1
  obtain ⟨s, s1, s2, s3⟩ := zArS x2
  unfold f_X8_resolveAnew f_X9_resolveAnew
  rw [zCns p1 s1, z9isa p2 s2, zbd_s, z9as1, zbd_s]
  simp only [zlt_e]
  by_cases c1 : (p && s) = true
  · rw [c1]
    rw [Bool.and_eq_true] at c1
    obtain ⟨n, en, hn⟩ := p3 c1.1
    obtain ⟨m, hm, em⟩ := s3 c1.2
    rw [if_pos (show true = true from rfl), zbx_0, if_neg (show ¬ zb true = 0 by decide), en, em]
    obtain ⟨σ', τ', kd, e1, e2, e3, e4, e5, e6, e7, e8, e9⟩ := zc_res hk hI (k := 92) true true (by omega) (by decide) hn hm
    have e1' : f_X5_run σ (nI n) (nI m) 1 92 = some σ' := e1
    have e2' : f_X9_resolves (zt_st τ 94 0 0) (nI n) (nI m) 1 1 = some (nI kd, τ') := e2
    rw [e1', e2', zbd_s, zbd_s, e3]
    exact zSuc (v := nI kd) rfl rfl e6 e7 e8 e9
  · rw [Bool.eq_false_iff.mpr c1]
    exact zRef hI hk rfl rfl zn1 zn1 (fun _ => rfl)
theorem zc_trust {kk : Nat} (hk : kk < 600) (x1 x2 : Int32) : zSim kk (fun σ => f_X8_trust σ x1 x2) (fun τ => f_X9_trust τ x1 x2) zg1 := by
  intro σ τ hI
  show zSimC kk (f_X8_trust σ x1 x2) (f_X9_trust τ x1 x2) zg1 σ τ
  obtain ⟨p, p1, p2, p3⟩ := zArN x1
  obtain ⟨s, s1, s2, s3⟩ := zArS x2
  unfold f_X8_trust f_X9_trust
  rw [zCns p1 s1, z9isa p2 s2, zbd_s, z9as1, zbd_s]
  simp only [zlt_e]
  by_cases c1 : (p && s) = true
  · rw [c1]
    rw [Bool.and_eq_true] at c1
    obtain ⟨n, en, hn⟩ := p3 c1.1
    obtain ⟨m, hm, em⟩ := s3 c1.2
    rw [if_pos (show true = true from rfl), zbx_0, if_neg (show ¬ zb true = 0 by decide), en, em]
    obtain ⟨σ', τ', kd, e1, e2, e3, e4, e5, e6, e7, e8, e9⟩ := zc_res hk hI (k := 93) true false (by omega) (by decide) hn hm
    have e1' : f_X5_run σ (nI n) (nI m) 1 93 = some σ' := e1
    have e2' : f_X9_resolves (zt_st τ 94 0 0) (nI n) (nI m) 1 0 = some (nI kd, τ') := e2
    rw [e1', e2', zbd_s, zbd_s, e3]
    by_cases c6 : kd = 6
    · rw [if_pos (show nI kd = 6 by rw [c6]; rfl)]
      exact zSuc (v := -1) rfl (if_pos (show nI kd = 6 by rw [c6]; rfl)) e6 e7 e8 e9
    · have n6 : ¬ nI kd = 6 := fun e => c6 ((nI_eq (by omega) (by decide)).mp (show nI kd = nI 6 from e))
      rw [if_neg n6]
      exact zSuc (v := σ' 80 14) rfl ((if_neg n6).trans (by rw [e5 c6])) e6 e7 e8 e9
  · rw [Bool.eq_false_iff.mpr c1]
    exact zRef hI hk rfl rfl zn1 zn1 (fun _ => rfl)
