/-! the answer of a zone: the reference's asks -/
def zEA (σ σ' : zt_St) : Prop := (∀ e, e ≠ 94 → σ' e = σ e) ∧ ∀ j, j ≠ 32 → j ≠ 33 → j ≠ 34 → σ' 94 j = σ 94 j
def zRA (σ' : zt_St) (r : zAn) : Prop := σ' 94 33 = r.2.2.1 ∧ σ' 94 34 = r.2.2.2 ∧ (r.1 = 0 ∨ r.1 = 3 → σ' 94 32 = r.2.1)
theorem zEA_r {σ : zt_St} : zEA σ σ := ⟨fun _ _ => rfl, fun _ _ _ _ => rfl⟩
theorem zEA_t {σ σ1 σ2 : zt_St} (h : zEA σ σ1) (h2 : zEA σ1 σ2) : zEA σ σ2 := ⟨fun e q => (h2.1 e q).trans (h.1 e q), fun j a b c => (h2.2 j a b c).trans (h.2 j a b c)⟩
theorem zEA_s {σ : zt_St} {j : Nat} {x : Int32} (h : j = 32 ∨ j = 33 ∨ j = 34) : zEA σ (zt_st σ 94 j x) := ⟨fun e q => zst_o q, fun i a b c => zst_j (by omega)⟩
theorem zEA_M {σ σ' : zt_St} {s : Nat} {R : zR} (h : zEA σ σ') (hR : zRM σ s R) : zRM σ' s R := zRM_f hR (fun c a b => h.1 c (by omega))
theorem z9lst {a b : Nat} (ha : a < 2 ^ 31) (hb : b < 2 ^ 31) : f_X9_least (nI a) (nI b) = some (nI (min a b)) := by
  unfold f_X9_least
  rcases Nat.lt_or_ge a b with h | h
  · rw [if_neg (nI_ge h hb), Nat.min_eq_left (by omega)]
  · rw [if_pos (nI_le h ha), Nat.min_eq_right h]
def zAL (R : zR) : Prop := ∀ i j, i < R.1 → j < R.1 → zP R i = zP R j → zS R i = 1 → i = j
theorem zrw_m1 {R : zR} {y : Int32} (hb : zRB R) : zrw R (-1) y = none := by
  cases h : zrw R (-1) y with
  | none => rfl
  | some j =>
    have w := zrw_lt h
    have b := hb j w.1
    exact absurd w.2.1 (zm1 (by omega))
theorem zct_m1 {R : zR} (hb : zRB R) : zct (zqa R (-1)) R.1 0 = 0 := by
  rcases Nat.eq_zero_or_pos (zct (zqa R (-1)) R.1 0) with w | w
  · exact w
  · obtain ⟨j, _, y, q⟩ := (zct_c (zqa R (-1)) R.1 0).2.mp w
    have b := hb j (by omega)
    exact absurd (of_decide_eq_true q) (zm1 (by omega))
theorem z9ask1 {t z a lf s d turn n L A : Nat} {R : zR} {σ : zt_St} {rc : zt_St → Int32 → Int32 → Int32 → Int32 → Int32 → Option (Int32 × zt_St)} (hk : zM t R) (hR : zRM σ t R) (hb : zRB R) (hF : zFS R) (hAl : zAL R) (hz : z < 6) (ha : σ 95 z = nI a) (hl : σ 96 z = nI lf) (ha2 : a < 10000) (hlf : lf ≤ 50) (hs : s < 5) (ht1 : 1 ≤ turn) (ht9 : turn ≤ 9) (hn : znm n = true) (hu : zun n a = true) (hL : L ≤ 50) (hA : A = L ∨ (A = 1000 ∧ L = 50 ∧ turn = 1)) (he : σ 94 33 = nI n)
    (hrec : turn ≠ 9 → ∀ σ2 n2 L2, zEA σ σ2 → σ2 94 33 = nI n2 → znm n2 = true → zun n2 a = true → L2 ≤ 50 → ∃ σ', rc σ2 (nI t) (nI z) (nI s) (nI L2) (nI turn) = some (nI (zas R a lf s d (turn + 1) n2 L2).1, σ') ∧ zEA σ2 σ' ∧ zRA σ' (zas R a lf s d (turn + 1) n2 L2)) :
    ∃ σ', f_X9_asks_18b rc σ (nI t) (nI z) (nI s) (nI A) (nI (turn - 1)) = some (nI (zas R a lf s (d + 1) turn n L).1, σ') ∧ zEA σ σ' ∧ zRA σ' (zas R a lf s (d + 1) turn n L) := by
  have hk' := hk
  obtain ⟨ht, h30⟩ := hk
  have hn1 := znm_lt hn
  have hA3 : A ≤ 1000 := by omega
  have hmin : ∀ b, b ≤ 50 → min A b = min L b := by intro b h; omega
  have s3 : nI s = 3 ↔ s = 3 := nI_eq (b := 3) (by omega) (by decide)
  have s4 : nI s = 4 ↔ s = 4 := nI_eq (b := 4) (by omega) (by decide)
  have tl : nI (turn - 1) ≤ 0 ↔ turn ≤ 1 := (nI_leI (b := 0) (by omega) (by decide)).trans (by omega)
  have step : ∀ l nx, l < R.1 → (nx = -1 ∨ ∃ m', znm m' = true ∧ nx = nI m') → ∃ σ', f_X9_asks_353 rc σ (nI t) (nI z) (nI s) (nI A) (nI (turn - 1)) nx (nI (32 * t + l)) = some (nI (if nx = -1 ∨ turn = 9 then ((5, -1, -1, nI 0) : zAn) else if zun nx.toNatClampNeg a = true then zas R a lf s d (turn + 1) nx.toNatClampNeg (min L (zL R l)) else (4, -1, nx, nI (min L (zL R l)))).1, σ') ∧ zEA σ σ' ∧ zRA σ' (if nx = -1 ∨ turn = 9 then ((5, -1, -1, nI 0) : zAn) else if zun nx.toNatClampNeg a = true then zas R a lf s d (turn + 1) nx.toNatClampNeg (min L (zL R l)) else (4, -1, nx, nI (min L (zL R l)))) := by
    intro l nx hl1 hx
    have b := hb l hl1
    have q := hR.2 l hl1
    unfold f_X9_asks_353
    rw [zgd_i (by omega) (by decide), nI_clamp (by omega), q.2.2.2, z9lst (by omega) (by omega), zbd_s, zlt_e, hmin _ b.2.2.2]
    have lost : ∃ σ', f_X9_asks_390 (zt_st σ 94 34 (nI (min L (zL R l)))) = some (nI 5, σ') ∧ zEA σ σ' ∧ zRA σ' ((5, -1, -1, nI 0) : zAn) := by
      refine ⟨zt_st (zt_st (zt_st σ 94 34 (nI (min L (zL R l)))) 94 33 (-1)) 94 34 0, rfl, zEA_t (zEA_t (zEA_s (by omega)) (zEA_s (by omega))) (zEA_s (by omega)), ?_, ?_, fun w => ?_⟩
      · rw [zst_j (by decide), zst_s]
      · rw [zst_s]; rfl
      · rcases w with w | w <;> cases w
    rcases hx with hx | ⟨m', hm, hx⟩
    · rw [if_pos hx, if_pos (Or.inl hx)]
      exact lost
    · have hm1 := znm_lt hm
      subst hx
      rw [if_neg (zm1 (show m' < 2 ^ 31 by omega)), nI_1, show turn - 1 + 1 = turn by omega]
      by_cases c9 : turn = 9
      · rw [if_neg (show ¬ nI turn ≤ 8 from nI_ge (a := 8) (by omega) (by omega)), if_pos (Or.inr c9)]
        exact lost
      · have e1 : (zt_st (zt_st σ 94 34 (nI (min L (zL R l)))) 94 33 (nI m')) 95 z = nI a := by rw [zst_o (by decide), zst_o (by decide)]; exact ha
        have e2 : zEA σ (zt_st (zt_st σ 94 34 (nI (min L (zL R l)))) 94 33 (nI m')) := zEA_t (zEA_s (by omega)) (zEA_s (by omega))
        rw [if_pos (show nI turn ≤ 8 from nI_le (b := 8) (by omega) (by decide)), if_neg (show ¬ (nI m' = -1 ∨ turn = 9) from fun w => w.elim (zm1 (by omega)) c9), zlt_e, zgd_i (by omega) (by decide), nI_clamp (show z < 2 ^ 31 by omega), nI_clamp (show m' < 2 ^ 31 by omega), e1, z9un hm1 ha2, zbd_s]
        cases hu2 : zun m' a with
        | false =>
          rw [if_pos (show zb false = 0 from rfl), if_neg (show ¬ false = true by decide)]
          refine ⟨_, rfl, e2, zst_s, ?_, fun w => ?_⟩
          · rw [zst_j (by decide), zst_s]
          · rcases w with w | w <;> cases w
        | true =>
          rw [if_neg (show ¬ zb true = 0 by decide), if_pos rfl]
          obtain ⟨σ', w1, w2, w3⟩ := hrec c9 _ m' (min L (zL R l)) e2 zst_s hm hu2 (by omega)
          exact ⟨σ', w1, zEA_t e2 w2, w3⟩
  have hrn := @zrn_c R a s n
  have main : zcf R s n = false → ∃ σ', f_X9_asks_127 rc σ (nI t) (nI z) (nI s) (nI A) (nI (turn - 1)) = some (nI (match zrn R a s n with
    | none => zat R a lf s n L
    | some (l, nx) => if nx = -1 ∨ turn = 9 then (5, -1, -1, nI 0) else if zun nx.toNatClampNeg a = true then zas R a lf s d (turn + 1) nx.toNatClampNeg (min L (zL R l)) else (4, -1, nx, nI (min L (zL R l)))).1, σ') ∧ zEA σ σ' ∧ zRA σ' (match zrn R a s n with
    | none => zat R a lf s n L
    | some (l, nx) => if nx = -1 ∨ turn = 9 then (5, -1, -1, nI 0) else if zun nx.toNatClampNeg a = true then zas R a lf s d (turn + 1) nx.toNatClampNeg (min L (zL R l)) else (4, -1, nx, nI (min L (zL R l)))) := by
    intro _
    unfold f_X9_asks_127
    rw [he, z9tre hk' hR hb hn1 hF.1, zbd_s]
    cases hz1 : ztre R n with
    | some l =>
      have w := ztre_s hz1
      have b := hb l w.1
      have q := hR.2 l w.1
      have e2 : zrn R a s n = some (l, zmv n (zP R l) (zV R l)) := by unfold zrn; rw [hz1]
      have hx := (hrn hb hF hn e2).2
      rw [if_neg (oI_1 (by omega)), show oI (32 * t) (some l) = nI (32 * t + l) from rfl, zgd_i (by omega) (by decide), zgd_i (by omega) (by decide), nI_clamp (by omega), q.1, q.2.2.1, z9fg b.1, zbd_s, z9mv hn1 b.1 b.2.2.1 (zun_fl hn1 w.2.2.2), zbd_s, e2]
      exact step l _ w.1 hx
    | none =>
      have hth : f_X9_isThere σ (nI t) (nI n) = some (zb (zth R n)) := z9thr hk' hR hb hn1
      have hR2 : ∀ x : Int32, zRM (zt_st σ 94 34 x) t R := fun x => zEA_M (zEA_s (by omega)) hR
      have ez : zrn R a s n = (match zrw R (zpp R a n) (nI 1) with | none => none | some l => if s = 1 then none else some (l, nI (zV R l))) := by unfold zrn; rw [hz1]; rfl
      have no : ∀ (y0 : Int32) (th : Bool) (k : Nat), zrw R (zpp R a n) (nI s) = none → (if zpp R a n = nI n ∨ 0 < zct (zqa R (zpp R a n)) R.1 0 then 1 else 2) = k → (th = true → k = 1) → (th = false → ∃ e, e < 100000 ∧ y0 / 10 = nI e ∧ (if (decide (0 < e) && zan (zqa R (nI (10 * e))) R.1 0) = true then 1 else 2) = k) → ∃ σ', f_X9_asks_307 rc σ (nI t) (nI z) (nI s) (nI A) (nI (turn - 1)) (-1) (-1) (zb th) y0 = some (nI (zat R a lf s n L).1, σ') ∧ zEA σ σ' ∧ zRA σ' (zat R a lf s n L) := by
        intro y0 th k h1 h2 h3 h4
        have e3 : zat R a lf s n L = (k, -1, nI n, nI (min L lf)) := by unfold zat; rw [h1, ← h2]
        have hfin : zEA σ (zt_st σ 94 34 (nI (min L lf))) ∧ zRA (zt_st σ 94 34 (nI (min L lf))) (k, -1, nI n, nI (min L lf)) := by
          refine ⟨zEA_s (by omega), ?_, zst_s, fun w => ?_⟩
          · rw [zst_j (by decide)]; exact he
          · have : k = 1 ∨ k = 2 := by
              rw [← h2]
              split
              · exact Or.inl rfl
              · exact Or.inr rfl
            have w : k = 0 ∨ k = 3 := w
            omega
        unfold f_X9_asks_307 f_X9_asks_347
        rw [if_pos (show (-1 : Int32) = -1 from rfl), zgd_i (by omega) (by decide), nI_clamp (by omega), hl, z9lst (by omega) (by omega), zbd_s, hmin lf hlf, zlt_e, e3]
        cases th with
        | true =>
          rw [if_neg (show ¬ zb true = 0 by decide), h3 rfl]
          exact ⟨_, rfl, by rw [h3 rfl] at hfin; exact hfin⟩
        | false =>
          obtain ⟨e, g1, g2, g3⟩ := h4 rfl
          rw [if_pos (show zb false = 0 from rfl), g2, z9sth hk' (hR2 _) g1, zbd_s]
          cases hx : (decide (0 < e) && zan (zqa R (nI (10 * e))) R.1 0) with
          | true =>
            rw [hx, if_pos rfl] at g3
            rw [if_neg (show ¬ zb true = 0 by decide), ← g3]
            exact ⟨_, rfl, by rw [← g3] at hfin; exact hfin⟩
          | false =>
            rw [hx, if_neg (by decide)] at g3
            rw [if_pos (show zb false = 0 from rfl), ← g3]
            exact ⟨_, rfl, by rw [← g3] at hfin; exact hfin⟩
      have yes : ∀ (th : Bool), (th = true → (if zpp R a n = nI n ∨ 0 < zct (zqa R (zpp R a n)) R.1 0 then 1 else 2) = 1) → (th = false → ∃ e, e < 100000 ∧ zpp R a n / 10 = nI e ∧ (if (decide (0 < e) && zan (zqa R (nI (10 * e))) R.1 0) = true then 1 else 2) = (if zpp R a n = nI n ∨ 0 < zct (zqa R (zpp R a n)) R.1 0 then 1 else 2)) → ∃ σ', f_X9_asks_252 rc σ (nI t) (nI z) (nI s) (nI A) (nI (turn - 1)) (-1) (-1) (zb th) (zpp R a n) (oI (32 * t) (zrw R (zpp R a n) (nI s))) (oI (32 * t) (zrw R (zpp R a n) (nI 1))) = some (nI (match zrn R a s n with
    | none => zat R a lf s n L
    | some (l, nx) => if nx = -1 ∨ turn = 9 then (5, -1, -1, nI 0) else if zun nx.toNatClampNeg a = true then zas R a lf s d (turn + 1) nx.toNatClampNeg (min L (zL R l)) else (4, -1, nx, nI (min L (zL R l)))).1, σ') ∧ zEA σ σ' ∧ zRA σ' (match zrn R a s n with
    | none => zat R a lf s n L
    | some (l, nx) => if nx = -1 ∨ turn = 9 then (5, -1, -1, nI 0) else if zun nx.toNatClampNeg a = true then zas R a lf s d (turn + 1) nx.toNatClampNeg (min L (zL R l)) else (4, -1, nx, nI (min L (zL R l)))) := by
        intro th h3 h4
        unfold f_X9_asks_252
        cases h1 : zrw R (zpp R a n) (nI s) with
        | none =>
          rw [if_pos (show oI (32 * t) none = -1 from rfl)]
          cases h2 : zrw R (zpp R a n) (nI 1) with
          | none =>
            have e2 : zrn R a s n = none := by rw [ez, h2]
            rw [if_pos (show oI (32 * t) none = -1 from rfl), e2]
            exact no _ th _ h1 rfl h3 h4
          | some l =>
            have w := zrw_lt h2
            have b := hb l w.1
            have c : ¬ s = 1 := by
              intro c
              rw [c] at h1
              rw [h1] at h2
              cases h2
            have e2 : zrn R a s n = some (l, nI (zV R l)) := by rw [ez, h2]; exact if_neg c
            have q := hR.2 l w.1
            rw [if_neg (oI_1 (by omega)), show oI (32 * t) (some l) = nI (32 * t + l) from rfl, zgd_i (by omega) (by decide), nI_clamp (by omega), q.2.2.1, e2]
            unfold f_X9_asks_307
            rw [if_neg (zm1 (show 32 * t + l < 2 ^ 31 by omega))]
            exact step l _ w.1 (hrn hb hF hn e2).2
        | some l =>
          have w := zrw_lt h1
          have b := hb l w.1
          have q := hR.2 l w.1
          have e2 : zrn R a s n = none := by
            rw [ez]
            cases h2 : zrw R (zpp R a n) (nI 1) with
            | none => rfl
            | some l2 =>
              have w2 := zrw_lt h2
              have b2 := hb l2 w2.1
              have c1 : zP R l2 = zP R l := (nI_eq (by omega) (by omega)).mp (w2.2.1.trans w.2.1.symm)
              have c2 : zS R l2 = 1 := (nI_eq (by omega) (by decide)).mp w2.2.2
              have c3 := hAl l2 l w2.1 w.1 c1 c2
              have c4 : zS R l = s := (nI_eq (by omega) (by omega)).mp w.2.2
              rw [c3] at c2
              exact if_pos (c4.symm.trans c2)
          have e3 : zat R a lf s n L = (0, nI (zV R l), nI n, nI (min L (zL R l))) := by unfold zat; rw [h1]
          rw [if_neg (oI_1 (by omega)), show oI (32 * t) (some l) = nI (32 * t + l) from rfl, zgd_i (by omega) (by decide), nI_clamp (by omega), q.2.2.1, zlt_e, zgd_i (by omega) (by decide), zst_o (show (107 : Nat) ≠ 94 by decide), q.2.2.2, z9lst (by omega) (by omega), zbd_s, hmin _ b.2.2.2, zlt_e, e2]
          show ∃ σ', _ = some (nI (zat R a lf s n L).1, σ') ∧ zEA σ σ' ∧ zRA σ' (zat R a lf s n L)
          rw [e3]
          refine ⟨_, rfl, zEA_t (zEA_s (by omega)) (zEA_s (by omega)), ?_, zst_s, fun _ => ?_⟩
          · rw [zst_j (by decide), zst_j (by decide)]; exact he
          · rw [zst_j (by decide)]; exact zst_s
      have f1 : ∀ x, f_X9_find σ (nI t) x (nI s) = some (oI (32 * t) (zrw R x (nI s))) := fun x => z9find hk' hR
      have f2 : ∀ x, f_X9_find σ (nI t) x 1 = some (oI (32 * t) (zrw R x (nI 1))) := fun x => z9find hk' hR
      rw [if_pos (show oI (32 * t) none = -1 from rfl), hth, zbd_s, z9enc hk' hR hb hz ha ha2 hn1 hu, zbd_s]
      unfold f_X9_asks_219
      rw [f1, f1, f2, f2]
      simp only [zbd_s]
      cases hth2 : zth R n with
      | true =>
        have hp : zpp R a n = nI n := by unfold zpp; rw [hth2]; exact if_pos rfl
        have y := yes true (fun _ => if_pos (Or.inl hp)) (fun h => nomatch h)
        rw [hp] at y
        rw [if_neg (show ¬ zb true = 0 by decide), if_neg (show ¬ zb true = 0 by decide), ite_self]
        exact y
      | false =>
        have hfl := zun_fl hn1 hu
        have h4n := zfg4 n
        have hz4 := zec_e (R := R) ha2 (zfg n - zfg a) n 4 (by omega) hn1 hu (by omega) hth2
        rw [if_pos (show zb false = 0 from rfl), ← hz4, if_pos (show zb false = 0 from rfl)]
        have hle := @zen_le R a 4 n
        have hp : zpp R a n = zpf (zen R a 4 n) := by unfold zpp; rw [hth2]; exact if_neg (by decide)
        generalize zen R a 4 n = e at *
        rw [zl_10, pk_mul]
        by_cases c0 : e = 0
        · have hp : zpp R a n = -1 := by rw [hp]; exact if_pos c0
          have e2 : zrn R a s n = none := by rw [ez, hp, zrw_m1 hb]
          rw [c0, if_neg (show ¬ (0 : Int32) < nI (10 * 0) by decide), e2]
          refine no _ false 2 (by rw [hp, zrw_m1 hb]) ?_ (fun h => nomatch h) (fun _ => ⟨0, by omega, by decide, rfl⟩)
          rw [hp, zct_m1 hb]
          exact if_neg (fun w => w.elim (fun w => zm1 (show n < 2 ^ 31 by omega) w.symm) (fun w => Nat.lt_irrefl 0 w))
        · have hp : zpp R a n = nI (10 * e) := by rw [hp, Nat.mul_comm]; exact if_neg c0
          have hne : ¬ zpp R a n = nI n := by
            rw [hp]
            intro w
            have w := (nI_eq (by omega) (by omega)).mp w
            have v := of_decide_eq_true hn
            omega
          have y := yes false (fun h => nomatch h) (fun _ => ⟨e, by omega, by rw [hp, zl_10, pk_div (by omega) (by decide) (by decide)]; exact congrArg nI (by omega), by
            rw [decide_eq_true (show 0 < e by omega), Bool.true_and, ← hp]
            have v1 := (zan_c (zqa R (zpp R a n)) R.1 0)
            have v2 := (zct_c (zqa R (zpp R a n)) R.1 0).2
            by_cases c : zan (zqa R (zpp R a n)) R.1 0 = true
            · rw [if_pos c, if_pos (Or.inr (v2.mpr (v1.mp c)))]
            · rw [if_neg c, if_neg (fun w => w.elim hne (fun w => c (v1.mpr (v2.mp w))))]⟩)
          rw [if_pos (show (0 : Int32) < nI (10 * e) from nI_lt (a := 0) (by omega) (by omega)), ← hp]
          exact y
  rw [zas_s]
  unfold f_X9_asks_18b
  rw [he, z9cut hk' hR hb hn1, zbd_s]
  cases hc : zcut R n with
  | none =>
    have e1 : zcf R s n = false := by unfold zcf; rw [hc]
    rw [if_pos (show oI (32 * t) none = -1 from rfl), e1, if_neg (show ¬ false = true by decide)]
    exact main e1
  | some l =>
    have w := zcut_s hc
    have b := hb l w.1
    have q := hR.2 l w.1
    have e0 : zcf R s n = !(decide (s = 3 ∨ s = 4) && decide (zP R l = n)) := by unfold zcf; rw [hc]
    have over : zcf R s n = true → ∃ σ', f_X9_asks_61 σ (nI A) (nI (turn - 1)) (nI (32 * t + l)) = some (nI (if turn ≤ 1 then zre R n else ((4, -1, nI n, nI L) : zAn)).1, σ') ∧ zEA σ σ' ∧ zRA σ' (if turn ≤ 1 then zre R n else ((4, -1, nI n, nI L) : zAn)) := by
      intro _
      unfold f_X9_asks_61 f_X9_asks_79 f_X9_asks_113
      simp only [tl]
      by_cases c1 : turn ≤ 1
      · have e3 : zre R n = (3, nI (zV R l), nI (zP R l), nI (zL R l)) := by unfold zre; rw [hc]
        simp only [if_pos c1]
        rw [e3, zgd_i (by omega) (by decide), nI_clamp (by omega), q.2.2.2, zlt_e, zgd_i (by omega) (by decide), zst_o (show (106 : Nat) ≠ 94 by decide), q.2.2.1, zlt_e, zgd_i (by omega) (by decide), zst_o (show (104 : Nat) ≠ 94 by decide), zst_o (show (104 : Nat) ≠ 94 by decide), q.1, zlt_e]
        refine ⟨_, rfl, zEA_t (zEA_t (zEA_s (by omega)) (zEA_s (by omega))) (zEA_s (by omega)), zst_s, ?_, fun _ => ?_⟩
        · rw [zst_j (by decide), zst_j (by decide), zst_s]
        · rw [zst_j (by decide), zst_s]
      · have hAL : A = L := by omega
        simp only [if_neg c1]
        rw [zlt_e, zgd_i (by omega) (by decide), nI_clamp (by omega), zst_o (show (106 : Nat) ≠ 94 by decide), q.2.2.1, zlt_e, zst_j (show (33 : Nat) ≠ 32 by decide), zst_j (show (33 : Nat) ≠ 34 by decide), he, zlt_e, hAL]
        refine ⟨_, rfl, zEA_t (zEA_t (zEA_s (by omega)) (zEA_s (by omega))) (zEA_s (by omega)), zst_s, ?_, fun w => ?_⟩
        · rw [zst_j (by decide), zst_j (by decide), zst_s]
        · rcases w with w | w <;> cases w
    rw [if_neg (oI_1 (by omega)), show oI (32 * t) (some l) = nI (32 * t + l) from rfl, zgd_i (by omega) (by decide), nI_clamp (by omega), q.1]
    simp only [nI_eq (show zP R l < 2 ^ 31 by omega) (show n < 2 ^ 31 by omega), s3, s4]
    by_cases cp : zP R l = n
    · rw [if_pos cp]
      by_cases c3 : s = 3
      · have e1 : zcf R s n = false := by rw [e0, decide_eq_true (show s = 3 ∨ s = 4 from Or.inl c3), decide_eq_true cp]; rfl
        rw [if_pos c3, e1, if_neg (show ¬ false = true by decide)]
        exact main e1
      · rw [if_neg c3]
        by_cases c4 : s = 4
        · have e1 : zcf R s n = false := by rw [e0, decide_eq_true (show s = 3 ∨ s = 4 from Or.inr c4), decide_eq_true cp]; rfl
          rw [if_pos c4, e1, if_neg (show ¬ false = true by decide)]
          exact main e1
        · have e1 : zcf R s n = true := by rw [e0, decide_eq_false (show ¬ (s = 3 ∨ s = 4) by omega)]; rfl
          rw [if_neg c4, e1, if_pos rfl]
          exact over e1
    · have e1 : zcf R s n = true := by rw [e0, decide_eq_false cp, Bool.and_false]; rfl
      rw [if_neg cp, e1, if_pos rfl]
      exact over e1
theorem zs_ask {n : Nat} {σ : zt_St} {a b c d e : Int32} : f_X9_asks_18 (n + 1) σ a b c d e = f_X9_asks_18b (f_X9_asks_18 n) σ a b c d e := rfl
theorem z9askL {t z a lf s : Nat} {R : zR} (hk : zM t R) (hb : zRB R) (hF : zFS R) (hAl : zAL R) (hz : z < 6) (ha2 : a < 10000) (hlf : lf ≤ 50) (hs : s < 5) : ∀ d turn n L A (σ : zt_St) m, turn + d = 9 → 1 ≤ turn → zRM σ t R → σ 95 z = nI a → σ 96 z = nI lf → znm n = true → zun n a = true → L ≤ 50 → (A = L ∨ (A = 1000 ∧ L = 50 ∧ turn = 1)) → σ 94 33 = nI n → ∃ σ', f_X9_asks_18 (m + d + 1) σ (nI t) (nI z) (nI s) (nI A) (nI (turn - 1)) = some (nI (zas R a lf s (d + 1) turn n L).1, σ') ∧ zEA σ σ' ∧ zRA σ' (zas R a lf s (d + 1) turn n L) := by
  intro d
  induction d with
  | zero =>
    intro turn n L A σ m h h1 hR ha hl hn hu hL hA he
    rw [zs_ask]
    exact z9ask1 hk hR hb hF hAl hz ha hl ha2 hlf hs h1 (by omega) hn hu hL hA he (fun c => absurd (by omega) c)
  | succ d ih =>
    intro turn n L A σ m h h1 hR ha hl hn hu hL hA he
    rw [show m + (d + 1) + 1 = (m + d + 1) + 1 from rfl, zs_ask]
    refine z9ask1 hk hR hb hF hAl hz ha hl ha2 hlf hs h1 (by omega) hn hu hL hA he (fun c σ2 n2 L2 e2 e3 e4 e5 e6 => ?_)
    exact ih (turn + 1) n2 L2 L2 σ2 m (by omega) (by omega) (zEA_M e2 hR) (by rw [e2.1 95 (by decide)]; exact ha) (by rw [e2.1 96 (by decide)]; exact hl) e4 e5 e6 (Or.inl rfl) e3
theorem z9asks {t z a lf s n : Nat} {R : zR} {σ : zt_St} (hk : zM t R) (hb : zRB R) (hF : zFS R) (hAl : zAL R) (hz : z < 6) (ha2 : a < 10000) (hlf : lf ≤ 50) (hs : s < 5) (hR : zRM σ t R) (ha : σ 95 z = nI a) (hl : σ 96 z = nI lf) (hn : znm n = true) (hu : zun n a = true) : ∃ σ', f_X9_asks σ (nI t) (nI z) (nI n) (nI s) = some (nI (zas R a lf s 9 1 n 50).1, σ') ∧ zEA σ σ' ∧ zRA σ' (zas R a lf s 9 1 n 50) := by
  have e : zEA σ (zt_st (zt_st σ 94 33 (nI n)) 94 32 (-1)) := zEA_t (zEA_s (by omega)) (zEA_s (by omega))
  unfold f_X9_asks
  rw [zlt_e, zlt_e, zfu 8 (by omega), zl_1000, zl_0]
  obtain ⟨σ', w1, w2, w3⟩ := z9askL hk hb hF hAl hz ha2 hlf hs 8 1 n 50 1000 _ (4999 - 8) (by omega) (by omega) (zEA_M e hR) (by rw [e.1 95 (by decide)]; exact ha) (by rw [e.1 96 (by decide)]; exact hl) hn hu (by omega) (Or.inr ⟨rfl, rfl, rfl⟩) (by rw [zst_j (by decide), zst_s])
  exact ⟨σ', w1, zEA_t e w2, w3⟩
