/-! a resolver's run, in both: the loop -/
def zLp (Z : Nat × (Nat → Nat)) (RS : Nat → zR) (now B : Nat) (σ τ : zt_St) (n s q ld : Nat) (zo : Option Nat) (aw o : Bool) (tr U : Int32) : Prop := zJ1 σ τ Z RS now ∧ (∃ c t, zIK σ τ c now t ∧ t + (12 - q) ≤ B) ∧ σ 90 = τ 113 ∧ σ 80 5 = zb aw ∧ σ 80 6 = nI n ∧ σ 80 7 = nI s ∧ σ 80 8 = oI 0 zo ∧ σ 80 10 = nI q ∧ q ≤ 12 ∧ σ 80 11 = nI ld ∧ ld ≤ 8 ∧ σ 80 12 = zb o ∧ σ 80 13 = tr ∧ σ 80 14 = τ 94 36 ∧ znm n = true ∧ s < 5 ∧ (∀ z, zo = some z → z < Z.1 ∧ zun n (Z.2 z) = true) ∧ (o = false → ∃ l, l ≤ 50 ∧ σ 80 9 = nI l ∧ (U = nI l ∨ (l = 50 ∧ U = nI 1000)))
theorem zlea {l l' : Nat} {U : Int32} (h : l ≤ 50) (h' : l' ≤ 50) (hU : U = nI l ∨ (l = 50 ∧ U = nI 1000)) : (if nI l' < nI l then nI l' else nI l) = nI (min l' l) ∧ (if nI l' ≤ U then nI l' else U) = nI (min l' l) := by
  refine ⟨zmin1 (a := l) (b := l') (by omega) (by omega) |>.trans (by rw [Nat.min_comm]), ?_⟩
  rcases hU with e | ⟨e, e2⟩
  · rw [e]
    by_cases c : l' ≤ l
    · rw [if_pos (nI_le c (by omega)), Nat.min_eq_left c]
    · rw [if_neg (nI_ge (by omega) (by omega)), Nat.min_eq_right (by omega)]
  · rw [e2, if_pos (nI_le (by omega) (by omega)), Nat.min_eq_left (by omega)]
theorem z9lea {a b : Int32} : f_X9_least a b = some (if b ≤ a then b else a) := by
  unfold f_X9_least
  by_cases c : b ≤ a
  · rw [if_pos c, if_pos c]
  · rw [if_neg c, if_neg c]
theorem zmxe {w t : Int32} : (if w < t then t else w) = if t ≤ w then w else t := by
  by_cases c : w < t
  · rw [if_pos c, if_neg (fun h => (Int32.not_le.mpr c) h)]
  · rw [if_neg c, if_pos (Int32.not_lt.mp c)]
theorem zRun1 {Z : Nat × (Nat → Nat)} {RS : Nat → zR} {now B k i n s q ld : Nat} {zo : Option Nat} {aw tl o : Bool} {tr U : Int32} {σ τ : zt_St} {rcC : zt_St → Int32 → Option zt_St} {rc : zRec} (hk : k = 92 ∨ k = 93) (hi : i < 1000) (hB : B < 2 ^ 31) (hL : zLp Z RS now B σ τ n s q ld zo aw o tr U)
    (hrec : ∀ σ2 τ2 n2 q2 ld2 zo2 o2 tr2 U2, (12 - q2) + (8 - ld2) < (12 - q) + (8 - ld) → zLp Z RS now B σ2 τ2 n2 s q2 ld2 zo2 aw o2 tr2 U2 → zRes k now B tl σ2 τ2 (rcC σ2 (nI (i + 1))) (rc τ2 (nI s) (zb aw) (zb tl) (nI n2) (nI q2) (nI ld2) U2 (zb o2) (oI 0 zo2) tr2)) :
    zRes k now B tl σ τ (f_X5_run_10b k rcC σ (nI i)) (f_X9_resolves_28b rc τ (nI s) (zb aw) (zb tl) (nI n) (nI q) (nI ld) U (zb o) (oI 0 zo) tr) := by
  obtain ⟨hJ, ⟨c, t, hK, htB⟩, hu, h5, h6, h7, h8, h10, hq, h11, hld, h12, h13, h14, hn, hs, hzo, hlf⟩ := hL
  obtain ⟨σ5, e5, Q, T, hQ, τ5, c', t', hK5, hT, hFr, hGr, hu5, hq5, hcase⟩ := @zTake rc σ τ Z RS now t c n s q zo aw tl o (nI ld) U tr hJ hK (by omega) hu h5 h6 h7 h8 h10 hq h12 h13 hn hs hzo
  have hQ12 : Q ≤ 12 := by omega
  have htB5 : t' + (12 - Q) ≤ B := by omega
  have g9 : σ5 80 9 = σ 80 9 := hFr.2 9 (by decide) (by decide) (by decide) (by decide)
  have g11 : σ5 80 11 = nI ld := (hFr.2 11 (by decide) (by decide) (by decide) (by decide)).trans h11
  have g5 : σ5 80 5 = zb aw := (hFr.2 5 (by decide) (by decide) (by decide) (by decide)).trans h5
  have g7 : σ5 80 7 = nI s := (hFr.2 7 (by decide) (by decide) (by decide) (by decide)).trans h7
  have g6 : σ5 80 6 = nI n := (hFr.2 6 (by decide) (by decide) (by decide) (by decide)).trans h6
  have g36 : τ5 94 36 = τ 94 36 := hGr.2 36 (by decide) (by decide) (by decide) (by decide)
  have g14 : σ5 80 14 = τ5 94 36 := ((hFr.2 14 (by decide) (by decide) (by decide) (by decide)).trans h14).trans g36.symm
  have hJ5 := zJ1_f hJ hFr hGr
  have hG2 := zG2_G hGr
  have h121 : τ5 121 = τ 121 := hGr.1 121 (by omega)
  unfold f_X5_run_10b f_X5_run_131 f_X5_run_125
  rw [zl_1000, if_neg (nI_ge hi (by decide)), e5, zbd_s]
  rcases hcase with ⟨hk0, hk12, hr⟩ | ⟨kd, o5, z5, tr5, hkd, m0, m1, m2, m12, mlf, m4, m13, hr⟩ | ⟨v, tr5, σ6, v1, v2, m0, d1, d2, d3, d4, m12, d5, hr⟩
  · rw [hr]
    have n3 : ¬ σ5 91 0 = 3 := by rcases hk0 with e | e <;> rw [e] <;> decide
    have n4 : ¬ σ5 91 0 = 4 := by rcases hk0 with e | e <;> rw [e] <;> decide
    rw [if_neg n3, zlt_e, zlt_e, zst_o (show 91 ≠ 80 by decide), zst_o (show 91 ≠ 80 by decide), if_neg n4]
    have hz : ∀ x y, zRes k now B tl σ τ (zt_bd (f_X5_finish (zt_st (zt_st σ5 80 9 x) 80 14 y) k) fun σ17 => some σ17) (f_X9_fails τ5 (nI Q) (zb o) (zb tl)) := fun x y => by
      have eb : ∀ w : Option zt_St, (zt_bd w fun σ17 => some σ17) = w := fun w => by cases w <;> rfl
      rw [eb]
      have hFF : zF2 k σ (zt_st (zt_st σ5 80 9 x) 80 14 y) := zF2_t (zF2_F hFr) (zF2_t (zF2_8 (by decide)) (zF2_8 (by decide)))
      obtain ⟨kd, hkd, ek⟩ : ∃ kd, (kd = 4 ∨ kd = 5 ∨ kd = 6) ∧ σ5 91 0 = nI kd := by
        rcases hk0 with e | e
        · exact ⟨5, by omega, e⟩
        · exact ⟨6, by omega, e⟩
      exact zRes_t (zEndF (kd := kd) hk (zIK_f hK5 (fun a _ _ => (zst_o (by omega)).trans (zst_o (by omega))) (fun _ _ _ => rfl) rfl) (by omega) (by rw [zst_o (by decide), zst_o (by decide)]; exact hu5) (by rw [zst_j (by decide), zst_j (by decide)]; exact hq5) (by rw [zst_j (by decide), zst_j (by decide)]; exact hk12) (by rw [zst_o (by decide), zst_o (by decide)]; exact ek) hkd) hFF hG2 h121
    exact hz _ _
  · have n3 : ¬ nI kd = 3 := fun e => by have := (nI_eq (by omega) (by decide)).mp (show nI kd = nI 3 from e); omega
    have e36 : ∀ W, zt_st τ5 94 36 W 94 34 = τ5 94 34 := fun W => zst_j (by decide)
    have e33 : ∀ W, zt_st τ5 94 36 W 94 33 = τ5 94 33 := fun W => zst_j (by decide)
    have e32 : ∀ W, zt_st τ5 94 36 W 94 32 = τ5 94 32 := fun W => zst_j (by decide)
    have hr2 : f_X9_resolves_28b rc τ (nI s) (zb aw) (zb tl) (nI n) (nI q) (nI ld) U (zb o) (oI 0 zo) tr = f_X9_resolves_474 rc τ5 (if tr5 ≤ τ5 94 36 then τ5 94 36 else tr5) (nI s) (zb aw) (zb tl) (nI Q) (nI ld) U (zb o5) tr5 (nI kd) := by
      rw [hr]
      unfold f_X9_resolves_449
      rw [if_neg n3]
      by_cases c1 : tr5 ≤ τ5 94 36
      · rw [if_pos c1, if_pos c1]
      · rw [if_neg c1, if_neg c1]
    rw [hr2, m0, if_neg n3, zlt_e, zlt_e]
    have eW : (if zt_st σ5 80 9 (if σ5 91 3 < σ5 80 9 then σ5 91 3 else σ5 80 9) 80 14 < zt_st σ5 80 9 (if σ5 91 3 < σ5 80 9 then σ5 91 3 else σ5 80 9) 80 13 then zt_st σ5 80 9 (if σ5 91 3 < σ5 80 9 then σ5 91 3 else σ5 80 9) 80 13 else zt_st σ5 80 9 (if σ5 91 3 < σ5 80 9 then σ5 91 3 else σ5 80 9) 80 14) = (if tr5 ≤ τ5 94 36 then τ5 94 36 else tr5) := by
      rw [zst_j (show 14 ≠ 9 by decide), zst_j (show 13 ≠ 9 by decide), m13, g14]
      exact zmxe
    rw [eW]
    unfold f_X9_resolves_474 f_X9_resolves_570
    generalize (if tr5 ≤ τ5 94 36 then τ5 94 36 else tr5) = W
    rw [@zlt_e _ _ (zt_st τ5 94 36 W), z9lea, zbd_s, e36]
    have hlf5 : o5 = false → ∃ l, l ≤ 50 ∧ (if σ5 91 3 < σ5 80 9 then σ5 91 3 else σ5 80 9) = nI l ∧ (if τ5 94 34 ≤ U then τ5 94 34 else U) = nI l := fun e => by
      obtain ⟨eo, l', b1, b2, b3⟩ := mlf e
      obtain ⟨l, a1, a2, a3⟩ := hlf eo
      obtain ⟨w1, w2⟩ := zlea a1 b1 a3
      exact ⟨min l' l, by omega, by rw [b2, g9, a2]; exact w1, by rw [b3]; exact w2⟩
    generalize (if σ5 91 3 < σ5 80 9 then σ5 91 3 else σ5 80 9) = x at hlf5
    generalize (if τ5 94 34 ≤ U then τ5 94 34 else U) = U2 at hlf5
    have hFF : zF2 k σ (zt_st (zt_st σ5 80 9 x) 80 14 W) := zF2_t (zF2_F hFr) (zF2_t (zF2_8 (by decide)) (zF2_8 (by decide)))
    have hGG : zG2 τ (zt_st τ5 94 36 W) := zG2_t hG2 ⟨fun a h => zst_o (by omega), fun j _ _ _ _ a => zst_j a⟩
    have h121' : zt_st τ5 94 36 W 121 = τ 121 := by rw [zst_o (by decide)]; exact h121
    have f91 : zt_st (zt_st σ5 80 9 x) 80 14 W 91 = σ5 91 := by rw [zst_o (by decide), zst_o (by decide)]
    have f90 : zt_st (zt_st σ5 80 9 x) 80 14 W 90 = zt_st τ5 94 36 W 113 := by rw [zst_o (by decide), zst_o (by decide), zst_o (by decide)]; exact hu5
    have f80 : ∀ j, j ≠ 9 → j ≠ 14 → zt_st (zt_st σ5 80 9 x) 80 14 W 80 j = σ5 80 j := fun j a b => (zst_j b).trans (zst_j a)
    have f9 : zt_st (zt_st σ5 80 9 x) 80 14 W 80 9 = x := (zst_j (by decide)).trans zst_s
    have f14 : zt_st (zt_st σ5 80 9 x) 80 14 W 80 14 = zt_st τ5 94 36 W 94 36 := zst_s.trans zst_s.symm
    have fK : zIK (zt_st (zt_st σ5 80 9 x) 80 14 W) (zt_st τ5 94 36 W) c' now t' := zIK_f hK5 (fun a _ _ => (zst_o (by omega)).trans (zst_o (by omega))) (fun a _ _ => zst_o (by omega)) (zst_j (by decide))
    have fJ : zJ1 (zt_st (zt_st σ5 80 9 x) 80 14 W) (zt_st τ5 94 36 W) Z RS now := by
      obtain ⟨a1, a2, a3, a4, a5⟩ := hJ5
      exact ⟨zIW_f a1 (fun a _ => (zst_o (by omega)).trans (zst_o (by omega))) (fun a _ _ => zst_o (by omega)) (zst_j (by decide)), (f80 3 (by decide) (by decide)).trans a2, (zst_j (by decide)).trans a3, ((f80 4 (by decide) (by decide)).trans a4).trans (zst_j (by decide)).symm, a5⟩
    have i32 := e32 W
    have i33 := e33 W
    generalize zt_st (zt_st σ5 80 9 x) 80 14 W = σ8 at hFF f91 f90 f80 f9 f14 fK fJ
    generalize zt_st τ5 94 36 W = τ8 at hGG h121' f90 f14 fK fJ i32 i33
    have eb : ∀ w : Option zt_St, (zt_bd w fun σ17 => some σ17) = w := fun w => by cases w <;> rfl
    rw [eb, f91, m0]
    by_cases c4 : kd = 4
    · subst c4
      rw [if_pos (show nI 4 = 4 from rfl), if_pos (show nI 4 = 4 from rfl), zlt_e, f80 11 (by decide) (by decide), g11, nI_1, zst_s, zl_8, zl_9, eb]
      by_cases c8 : ld + 1 ≤ 8
      · obtain ⟨mm, hm, em⟩ := m4 rfl
        rw [if_pos (nI_lt (by omega) (by omega)), if_pos (nI_le c8 (by omega)), zlt_e, zlt_e, zst_o (show 91 ≠ 80 by decide), f91, m2, i33, em, nI_1]
        have R := hrec (zt_st (zt_st (zt_st σ8 80 11 (nI (ld + 1))) 80 6 (nI mm)) 80 8 (-1)) τ8 mm Q (ld + 1) none o5 tr5 U2 (by omega) (by
          obtain ⟨a1, a2, a3, a4, a5⟩ := fJ
          refine ⟨⟨zIW_f a1 (fun a _ => (zst_o (by omega)).trans ((zst_o (by omega)).trans (zst_o (by omega)))) (fun _ _ _ => rfl) rfl, ?_, a3, ?_, a5⟩, ⟨c', t', zIK_f fK (fun a _ _ => (zst_o (by omega)).trans ((zst_o (by omega)).trans (zst_o (by omega)))) (fun _ _ _ => rfl) rfl, htB5⟩, ?_, ?_, ?_, ?_, ?_, ?_, hQ12, ?_, c8, ?_, ?_, ?_, hm, hs, fun z e => (nomatch e), fun e => ?_⟩
          · rw [zst_j (by decide), zst_j (by decide), zst_j (by decide)]; exact a2
          · rw [zst_j (by decide), zst_j (by decide), zst_j (by decide)]; exact a4
          · rw [zst_o (by decide), zst_o (by decide), zst_o (by decide)]; exact f90
          · rw [zst_j (by decide), zst_j (by decide), zst_j (by decide), f80 5 (by decide) (by decide)]; exact g5
          · rw [zst_j (by decide), zst_s]
          · rw [zst_j (by decide), zst_j (by decide), zst_j (by decide), f80 7 (by decide) (by decide)]; exact g7
          · exact zst_s
          · rw [zst_j (by decide), zst_j (by decide), zst_j (by decide), f80 10 (by decide) (by decide)]; exact hq5
          · rw [zst_j (by decide), zst_j (by decide), zst_s]
          · rw [zst_j (by decide), zst_j (by decide), zst_j (by decide), f80 12 (by decide) (by decide)]; exact m12
          · rw [zst_j (by decide), zst_j (by decide), zst_j (by decide), f80 13 (by decide) (by decide)]; exact m13
          · rw [zst_j (by decide), zst_j (by decide), zst_j (by decide)]; exact f14
          · obtain ⟨l, b1, b2, b3⟩ := hlf5 e
            exact ⟨l, b1, by rw [zst_j (by decide), zst_j (by decide), zst_j (by decide), f9]; exact b2, Or.inl b3⟩)
        exact zRes_t R (zF2_t hFF (zF2_t (zF2_8 (by decide)) (zF2_t (zF2_8 (by decide)) (zF2_8 (by decide))))) hGG h121'
      · rw [if_neg (nI_nlt (by omega) (by omega)), if_neg (nI_ge (by omega) (by omega)), zfl]
        exact zRes_t (zEndF (kd := 4) hk (zIK_f fK (fun a _ _ => zst_o (by omega)) (fun _ _ _ => rfl) rfl) (by omega) (by rw [zst_o (by decide)]; exact f90) (by rw [zst_j (by decide), f80 10 (by decide) (by decide)]; exact hq5) (by rw [zst_j (by decide), f80 12 (by decide) (by decide)]; exact m12) (by rw [zst_o (by decide), f91]; exact m0) (by omega)) (zF2_t hFF (zF2_8 (by decide))) hGG h121'
    · have n4 : ¬ nI kd = 4 := fun e => c4 ((nI_eq (by omega) (by decide)).mp (show nI kd = nI 4 from e))
      rw [if_neg n4, if_neg n4]
      exact zRes_t (zEndR (kd := kd) (U := U2) hk fK (by omega) f90 ((f80 10 (by decide) (by decide)).trans hq5) ((f80 12 (by decide) (by decide)).trans m12) (by rw [f91]; exact m0) (by omega) (by rw [f91, i32]; exact m1) (by rw [f91, i33]; exact m2) (fun e => by
        obtain ⟨l, b1, b2, b3⟩ := hlf5 e
        rw [f9, b2, b3]) f14 rfl) hFF hGG h121'
  · have hQ2 : Q = q + 1 ∧ q < 12 := by
      rcases hQ with ⟨a, b, c⟩ | ⟨a, b, c⟩
      · exact ⟨a, c⟩
      · exact absurd m0 c
    rw [hr, m0, if_pos (show nI 3 = 3 from rfl), d1, zbd_s, nI_1]
    unfold f_X9_resolves_449 f_X9_resolves_570
    rw [if_pos (show nI 3 = 3 from rfl)]
    have R := hrec σ6 τ5 n Q ld (some v) o tr5 U (by omega) (by
      obtain ⟨a1, a2, a3, a4, a5⟩ := hJ5
      refine ⟨⟨zIW_f a1 (fun a h => d2 a (by omega)) (fun _ _ _ => rfl) rfl, (d3 3 (by decide) (by decide)).trans a2, a3, (d3 4 (by decide) (by decide)).trans a4, a5⟩, ⟨c', t', zIK_f hK5 (fun a _ _ => d2 a (by omega)) (fun _ _ _ => rfl) rfl, htB5⟩, by rw [d2 90 (by decide)]; exact hu5, (d3 5 (by decide) (by decide)).trans g5, (d3 6 (by decide) (by decide)).trans g6, (d3 7 (by decide) (by decide)).trans g7, d4.trans (congrArg nI (Nat.zero_add v).symm), (d3 10 (by decide) (by decide)).trans hq5, hQ12, (d3 11 (by decide) (by decide)).trans g11, hld, (d3 12 (by decide) (by decide)).trans m12, d5, (d3 14 (by decide) (by decide)).trans g14, hn, hs, fun z e => ?_, fun e => ?_⟩
      · cases e
        exact ⟨v1, v2⟩
      · obtain ⟨l, b1, b2, b3⟩ := hlf e
        exact ⟨l, b1, ((d3 9 (by decide) (by decide)).trans g9).trans b2, b3⟩)
    rw [show oI 0 (some v) = nI v from congrArg nI (Nat.zero_add v)] at R
    exact zRes_t R (zF2_t (zF2_F hFr) ⟨fun a h => d2 a (by omega), d3 3 (by decide) (by decide), d3 4 (by decide) (by decide)⟩) hG2 h121
theorem zs_run {k n : Nat} {σ : zt_St} {a : Int32} : f_X5_run_10 k (n + 1) σ a = f_X5_run_10b k (f_X5_run_10 k n) σ a := rfl
theorem zs_res {n : Nat} {τ : zt_St} {a b c d e f g h i j : Int32} : f_X9_resolves_28 (n + 1) τ a b c d e f g h i j = f_X9_resolves_28b (f_X9_resolves_28 n) τ a b c d e f g h i j := rfl
theorem zRunL {Z : Nat × (Nat → Nat)} {RS : Nat → zR} {now B k s : Nat} {aw tl : Bool} (hk : k = 92 ∨ k = 93) (hB : B < 2 ^ 31) : ∀ d i n q ld zo o tr U (σ τ : zt_St) m m2, (12 - q) + (8 - ld) ≤ d → i + d < 1000 → zLp Z RS now B σ τ n s q ld zo aw o tr U → zRes k now B tl σ τ (f_X5_run_10 k (m + d + 1) σ (nI i)) (f_X9_resolves_28 (m2 + d + 1) τ (nI s) (zb aw) (zb tl) (nI n) (nI q) (nI ld) U (zb o) (oI 0 zo) tr) := by
  intro d
  induction d with
  | zero =>
    intro i n q ld zo o tr U σ τ m m2 hd hi hL
    rw [zs_run, zs_res]
    exact zRun1 hk (by omega) hB hL (fun σ2 τ2 n2 q2 ld2 zo2 o2 tr2 U2 h _ => absurd h (by omega))
  | succ d ih =>
    intro i n q ld zo o tr U σ τ m m2 hd hi hL
    rw [show m + (d + 1) + 1 = (m + d + 1) + 1 from rfl, show m2 + (d + 1) + 1 = (m2 + d + 1) + 1 from rfl, zs_run, zs_res]
    exact zRun1 hk (by omega) hB hL (fun σ2 τ2 n2 q2 ld2 zo2 o2 tr2 U2 h hL2 => ih (i + 1) n2 q2 ld2 zo2 o2 tr2 U2 σ2 τ2 m m2 (by omega) (by omega) hL2)
theorem zRunA {Z : Nat × (Nat → Nat)} {RS : Nat → zR} {now B k n s c t : Nat} {aw tl : Bool} {σ τ : zt_St} (hk : k = 92 ∨ k = 93) (hB : B < 2 ^ 31) (hJ : zJ1 σ τ Z RS now) (hK : zIK σ τ c now t) (ht : t + 12 ≤ B) (hu : σ 90 = τ 113) (hn : znm n = true) (hs : s < 5) :
    zRes k now B tl σ τ (f_X5_run σ (nI n) (nI s) (zb aw) k) (f_X9_resolves τ (nI n) (nI s) (zb aw) (zb tl)) := by
  unfold f_X5_run f_X5_begin f_X9_resolves
  simp only [zlt_e]
  rw [zbg, zgd_t, zbd_s]
  have jo : ∀ a, a ≠ 80 → (zt_st (zt_st (zt_st (zt_st (zt_st (zt_st (zt_st (zt_st (zt_st (zt_st σ 80 6 (nI n)) 80 7 (nI s)) 80 5 (zb aw)) 80 8 (-1)) 80 9 50) 80 10 0) 80 11 0) 80 12 0) 80 13 0) 80 14 0) a = σ a := fun a h => by
    rw [zst_o h, zst_o h, zst_o h, zst_o h, zst_o h, zst_o h, zst_o h, zst_o h, zst_o h, zst_o h]
  have j3 : ∀ j, j < 5 → (zt_st (zt_st (zt_st (zt_st (zt_st (zt_st (zt_st (zt_st (zt_st (zt_st σ 80 6 (nI n)) 80 7 (nI s)) 80 5 (zb aw)) 80 8 (-1)) 80 9 50) 80 10 0) 80 11 0) 80 12 0) 80 13 0) 80 14 0) 80 j = σ 80 j := fun j h => by
    rw [zst_j (by omega), zst_j (by omega), zst_j (by omega), zst_j (by omega), zst_j (by omega), zst_j (by omega), zst_j (by omega), zst_j (by omega), zst_j (by omega), zst_j (by omega)]
  have jv : ∀ j, (zt_st (zt_st (zt_st (zt_st (zt_st (zt_st (zt_st (zt_st (zt_st (zt_st σ 80 6 (nI n)) 80 7 (nI s)) 80 5 (zb aw)) 80 8 (-1)) 80 9 50) 80 10 0) 80 11 0) 80 12 0) 80 13 0) 80 14 0) 80 j = if j = 14 then 0 else if j = 13 then 0 else if j = 12 then 0 else if j = 11 then 0 else if j = 10 then 0 else if j = 9 then 50 else if j = 8 then -1 else if j = 5 then zb aw else if j = 7 then nI s else if j = 6 then nI n else σ 80 j := fun j => by
    rw [zst_if, zst_if, zst_if, zst_if, zst_if, zst_if, zst_if, zst_if, zst_if, zst_if]
  generalize zt_st (zt_st (zt_st (zt_st (zt_st (zt_st (zt_st (zt_st (zt_st (zt_st σ 80 6 (nI n)) 80 7 (nI s)) 80 5 (zb aw)) 80 8 (-1)) 80 9 50) 80 10 0) 80 11 0) 80 12 0) 80 13 0) 80 14 0 = σ1 at jo j3 jv
  obtain ⟨a1, a2, a3, a4, a5⟩ := hJ
  have R := @zRunL Z RS now B k s aw tl hk hB 20 0 n 0 0 none false 0 1000 σ1 (zt_st τ 94 36 0) 4979 4979 (by omega) (by omega) ⟨⟨zIW_f a1 (fun a h => jo a (by omega)) (fun a _ _ => zst_o (by omega)) (zst_j (by decide)), (j3 3 (by decide)).trans a2, (zst_j (by decide)).trans a3, ((j3 4 (by decide)).trans a4).trans (zst_j (by decide)).symm, a5⟩, ⟨c, t, zIK_f hK (fun a _ _ => jo a (by omega)) (fun a _ _ => zst_o (by omega)) (zst_j (by decide)), ht⟩, by rw [jo 90 (by decide), zst_o (by decide)]; exact hu, jv 5, jv 6, jv 7, jv 8, jv 10, by decide, jv 11, by decide, jv 12, jv 13, (jv 14).trans zst_s.symm, hn, hs, fun z e => (nomatch e), fun _ => ⟨50, by decide, jv 9, Or.inr ⟨rfl, rfl⟩⟩⟩
  exact zRes_t R ⟨fun a h => jo a (by omega), j3 3 (by decide), j3 4 (by decide)⟩ ⟨fun a h => zst_o (by omega), fun j _ _ _ _ h => zst_j h⟩ (zst_o (by decide))
