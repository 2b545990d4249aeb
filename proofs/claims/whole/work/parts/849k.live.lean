/-! one step of a resolver: a zone that answers -/
def zgo (σ : zt_St) (v : Nat) (x : Int32) : Bool := (zkf (σ (3 + 11 * v) 5) x || zkf (σ (3 + 11 * v) 6) x) && zwi (σ (3 + 11 * v) 7) (σ (3 + 11 * v) 8) (σ 80 3)
def ztr (g : Bool) (x tr : Int32) : Int32 := if tr = 0 then (if x = -1 then 1 else if g = true then 0 else 2) else tr
theorem zGD {σ : zt_St} {Z : Nat × (Nat → Nat)} {v : Nat} {x tr : Int32} (hZ : zZC σ Z) (hB : zZB Z) (hv : v < Z.1) (h6 : σ 91 6 = nI v) (h7 : σ 91 7 = x) (h13 : σ 80 13 = tr) : ∃ σ6, f_X5_goDown σ = some σ6 ∧ (∀ a, a ≠ 80 → σ6 a = σ a) ∧ (∀ j, j ≠ 8 → j ≠ 13 → σ6 80 j = σ 80 j) ∧ σ6 80 8 = nI v ∧ σ6 80 13 = ztr (zgo σ v x) x tr := by
  have h6B := hB.1
  have hZ' : zZC (zt_st σ 80 8 (nI v)) Z := ⟨by rw [zst_o (by decide)]; exact hZ.1, fun i hi => by rw [zst_o (by omega)]; exact hZ.2 i hi⟩
  have fin : ∀ y, (∀ a, a ≠ 80 → (zt_st (zt_st σ 80 8 (nI v)) 80 13 y) a = σ a) ∧ (∀ j, j ≠ 8 → j ≠ 13 → (zt_st (zt_st σ 80 8 (nI v)) 80 13 y) 80 j = σ 80 j) ∧ (zt_st (zt_st σ 80 8 (nI v)) 80 13 y) 80 8 = nI v := fun y => ⟨fun a ha => (zst_o ha).trans (zst_o ha), fun j a b => (zst_j b).trans (zst_j a), (zst_j (by decide)).trans zst_s⟩
  have fin2 : (∀ a, a ≠ 80 → (zt_st σ 80 8 (nI v)) a = σ a) ∧ (∀ j, j ≠ 8 → j ≠ 13 → (zt_st σ 80 8 (nI v)) 80 j = σ 80 j) ∧ (zt_st σ 80 8 (nI v)) 80 8 = nI v := ⟨fun a ha => zst_o ha, fun j a b => zst_j a, zst_s⟩
  have e13 : zt_st σ 80 8 (nI v) 80 13 = tr := (zst_j (by decide)).trans h13
  have e7 : zt_st σ 80 8 (nI v) 91 7 = x := by rw [zst_o (by decide)]; exact h7
  have eg : ((zkf (zt_st σ 80 8 (nI v) (3 + 11 * v) 5) x || zkf (zt_st σ 80 8 (nI v) (3 + 11 * v) 6) x) && zwi (zt_st σ 80 8 (nI v) (3 + 11 * v) 7) (zt_st σ 80 8 (nI v) (3 + 11 * v) 8) (zt_st σ 80 8 (nI v) 80 3)) = zgo σ v x := by
    unfold zgo
    rw [zst_o (show 3 + 11 * v ≠ 80 by omega), zst_j (show 3 ≠ 8 by decide)]
  unfold f_X5_goDown f_X5_goDown_37 ztr
  rw [h6, zlt_e, e13, e7]
  by_cases c1 : tr = 0
  · rw [if_pos c1, if_pos c1, if_pos c1]
    by_cases c2 : x = -1
    · rw [if_pos c2, if_pos c2, zlt_e]
      exact ⟨_, rfl, (fin 1).1, (fin 1).2.1, (fin 1).2.2, zst_s⟩
    · rw [if_neg c2, if_neg c2, zst_s, z3at hZ' hB hv, zbd_s, zgd_d (zkd5 v (by omega)), z3gf, zbd_s, eg]
      cases zgo σ v x with
      | true =>
        rw [if_neg (show ¬ zb true = 0 by decide)]
        exact ⟨_, rfl, fin2.1, fin2.2.1, fin2.2.2, by rw [if_pos rfl, e13, c1]⟩
      | false =>
        rw [if_pos (show zb false = 0 from rfl), zlt_e]
        exact ⟨_, rfl, (fin 2).1, (fin 2).2.1, (fin 2).2.2, zst_s⟩
  · rw [if_neg c1, if_neg c1, if_neg c1]
    exact ⟨_, rfl, fin2.1, fin2.2.1, fin2.2.2, e13⟩
theorem z407 {rc : zRec} {τ : zt_St} {y : Int32} {v n s Q : Nat} {aw tl : Bool} {ld U oo : Int32} (hv : v < 6) : f_X9_resolves_407 rc τ y (nI s) (zb aw) (zb tl) (nI n) (nI Q) ld U oo (nI 3) (nI v) = f_X9_resolves_449 rc (if aw = true then τ else zt_st τ 113 v (τ 94 1 + τ 94 34)) (nI s) (zb aw) (zb tl) (nI n) (nI Q) ld U oo (nI v) y (nI 3) := by
  unfold f_X9_resolves_407 f_X9_resolves_429
  cases aw with
  | true => rw [if_neg (show ¬ zb true = 0 by decide), if_pos rfl]
  | false => rw [if_pos (show zb false = 0 from rfl), zgd_i hv (by decide), nI_clamp (by omega), zlt_e, if_neg (show ¬ false = true by decide)]
/-- the reference's trust behind a CUT -/
theorem zRT {rc : zRec} {τ : zt_St} {j P v n s Q : Nat} {R : zR} {aw tl : Bool} {ld U oo z tr : Int32} {g : Bool} (hk : zM j R) (hR : zRM τ j R) (hb : zRB R) (h33 : τ 94 33 = nI P) (h32 : τ 94 32 = nI v) (hv : v < 6) (hg : ((zkf (τ 100 (2 * v)) (zvt R (nI P)) || zkf (τ 100 (2 * v + 1)) (zvt R (nI P))) && zwi (τ 101 v) (τ 102 v) (τ 94 1)) = g) :
    (zt_bd (f_X9_find τ (nI j) (τ 94 33) 4) fun v54 => if tr = 0 then (if v54 = (-1) then f_X9_resolves_407 rc τ 1 (nI s) (zb aw) (zb tl) (nI n) (nI Q) ld U oo (nI 3) (τ 94 32) else zt_gd (zt_gI v54 416) <| zt_bd (f_X9_isGood τ (τ 94 32) (τ 106 v54.toNatClampNeg)) fun v59 => if v59 = 0 then f_X9_resolves_407 rc τ 2 (nI s) (zb aw) (zb tl) (nI n) (nI Q) ld U oo (nI 3) (τ 94 32) else f_X9_resolves_407 rc τ 0 (nI s) (zb aw) (zb tl) (nI n) (nI Q) ld U oo (nI 3) (τ 94 32)) else f_X9_resolves_407 rc τ tr (nI s) (zb aw) (zb tl) (nI n) (nI Q) ld U oo (nI 3) (τ 94 32)) = f_X9_resolves_407 rc τ (ztr g (zvt R (nI P)) tr) (nI s) (zb aw) (zb tl) (nI n) (nI Q) ld U oo (nI 3) (nI v) := by
  rw [h33, zl_4, z9find hk hR, zbd_s, h32]
  unfold ztr zvt at *
  by_cases c1 : tr = 0
  · rw [if_pos c1, if_pos c1]
    cases hq : zrw R (nI P) (nI 4) with
    | none => rw [if_pos (show oI (32 * j) none = -1 from rfl), if_pos (show zvo R none = -1 from rfl)]
    | some l =>
      obtain ⟨q1, _, _⟩ := zrw_lt hq
      rw [hq] at hg
      have h1 := hk.1
      have h2 := hk.2
      have e : zvo R (some l) = nI (zV R l) := rfl
      have hV := (hb l q1).2.2.1
      rw [if_neg (oI_1 (by omega)), e, if_neg (zm1 (by omega))]
      rw [e] at hg
      show (zt_gd (zt_gI (nI (32 * j + l)) 416) <| zt_bd (f_X9_isGood τ (nI v) (τ 106 (nI (32 * j + l)).toNatClampNeg)) fun v59 => if v59 = 0 then f_X9_resolves_407 rc τ 2 (nI s) (zb aw) (zb tl) (nI n) (nI Q) ld U oo (nI 3) (nI v) else f_X9_resolves_407 rc τ 0 (nI s) (zb aw) (zb tl) (nI n) (nI Q) ld U oo (nI 3) (nI v)) = _
      rw [zgd_i (by omega) (by decide), nI_clamp (by omega), (hR.2 l q1).2.2.1, z9gd hv, zbd_s, hg]
      cases g with
      | true => rw [if_neg (show ¬ zb true = 0 by decide), if_pos rfl]
      | false => rw [if_pos (show zb false = 0 from rfl), if_neg (show ¬ false = true by decide)]
  · rw [if_neg c1, if_neg c1]
theorem zln1 : ∀ i, i < 6 → zt_ln (3 + 11 * i + 1 + 1) = 20 ∧ zt_ln (3 + 11 * i + 1 + 2) = 20 ∧ zt_ln (3 + 11 * i + 1 + 3) = 20 ∧ zt_ln (3 + 11 * i + 1 + 4) = 20 ∧ zt_ln (3 + 11 * i + 6 + 1) = 20 ∧ zt_ln (3 + 11 * i + 6 + 2) = 20 ∧ zt_ln (3 + 11 * i + 6 + 3) = 20 ∧ zt_ln (3 + 11 * i + 6 + 4) = 20 := by decide
theorem zK1 {i : Nat} {R : zR} (hi : i < 6) (h : R.1 ≤ 20) : zK (3 + 11 * i + 1) 20 R := by
  obtain ⟨a, b, c, d, _⟩ := zln1 i hi
  exact ⟨a, b, c, d, h, by decide⟩
theorem zK6 {i : Nat} {R : zR} (hi : i < 6) (h : R.1 ≤ 20) : zK (3 + 11 * i + 6) 20 R := by
  obtain ⟨_, _, _, _, a, b, c, d⟩ := zln1 i hi
  exact ⟨a, b, c, d, h, by decide⟩
theorem zOKf {R : zR} {a : Nat} {Z : Nat × (Nat → Nat)} (h : zOK R a Z) : zFS R ∧ zAL R := ⟨zgv_s h.2.1 h.2.2.1 h.2.2.2.1 h.2.2.2.2, zgv_a h.2.1 h.2.2.2.2⟩
/-- a CUT of a set that fits is at the apex of its zone -/
theorem zOKc {R : zR} {a i : Nat} {Z : Nat × (Nat → Nat)} (h : zOK R a Z) (hi : i < R.1) (h3 : zS R i = 3) : zV R i < Z.1 ∧ Z.2 (zV R i) = zP R i := by
  have q := (zal_c _ _ _).mp h.2.2.2.2 i (Nat.zero_le _) (by omega)
  unfold zrf at q
  rw [Bool.and_eq_true] at q
  have q2 := q.2
  rw [if_neg (by omega), if_neg (by omega), if_pos h3, Bool.and_eq_true] at q2
  exact of_decide_eq_true q2.2
