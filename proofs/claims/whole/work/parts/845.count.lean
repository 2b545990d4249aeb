/-! how many names are a zone's own, in both -/
def zsi (g : Nat → Nat) : Nat → Nat → Nat
  | 0, _ => 0
  | d + 1, n => g n + zsi g d (n / 10)
theorem zsi_s {g : Nat → Nat} {d n : Nat} : zsi g (d + 1) n = g n + zsi g d (n / 10) := rfl
theorem zsi_l (g : Nat → Nat) : ∀ d n, d < 5 → zsi g (d + 1) n = zsi g d n + g (n / ztn d) := by
  intro d
  induction d with
  | zero =>
    intro n _
    rw [zsi_s, show ztn 0 = 1 from rfl, Nat.div_one]
    show g n + 0 = 0 + g n
    omega
  | succ d ih =>
    intro n h
    rw [zsi_s, ih (n / 10) (by omega), zsi_s, ztn_s (by omega), Nat.div_div_eq_div_mul, Nat.mul_comm 10]
    omega
def zog (R : zR) (i x : Nat) : Nat := if (zow R x && !(zan (zqt R x) i 0)) = true then 1 else 0
def zso (R : zR) (a : Nat) : Nat → Nat → Nat
  | 0, _ => 0
  | d + 1, i => zsi (zog R i) (zfg (zbs (zP R i)) - zfg a + 1) (zbs (zP R i)) + zso R a d (i + 1)
theorem zso_s {R : zR} {a d i : Nat} : zso R a (d + 1) i = zsi (zog R i) (zfg (zbs (zP R i)) - zfg a + 1) (zbs (zP R i)) + zso R a d (i + 1) := rfl
theorem zog_1 {R : zR} {i x : Nat} : zog R i x ≤ 1 := by unfold zog; split <;> omega
theorem zsi_1 {R : zR} {i : Nat} : ∀ d n, zsi (zog R i) d n ≤ d := by
  intro d
  induction d with
  | zero => intro n; exact Nat.le_refl 0
  | succ d ih =>
    intro n
    rw [zsi_s]
    have := @zog_1 R i n
    have := ih (n / 10)
    omega
theorem zs_con {σ : zt_St} {k0 n : Nat} {rc : Int32 → Int32 → Option Int32} {a b c d e : Int32} : f_X6_countOwnNames_44 σ k0 rc (n + 1) a b c d e = f_X6_countOwnNames_44b σ k0 rc (f_X6_countOwnNames_44 σ k0 rc n) a b c d e := rfl
theorem z3conI {σ : zt_St} {k0 M i ab : Nat} {R : zR} {rc : Int32 → Int32 → Option Int32} (hk : zK (k0 + 1) M R) (hR : zRC σ (k0 + 1) R) (hb : zRB R) (hi : i < R.1) (hab : ab < 5) : ∀ d n c j m, j + d = ab + 1 → n < 10000 → f_X6_countOwnNames_44 σ k0 rc (m + d + 1) (nI c) (nI i) (nI n) (nI ab) (nI j) = rc (nI (c + zsi (zog R i) d n)) (nI (i + 1)) := by
  have hM := hk.2.2.2.2
  intro d
  induction d with
  | zero =>
    intro n c j m h hn
    rw [zs_con]
    unfold f_X6_countOwnNames_44b
    rw [if_pos (nI_lt (by omega) (by omega)), nI_1]
    rfl
  | succ d ih =>
    intro n c j m h hn
    have t : f_X4_isThereBy σ (k0 + 1) (nI i) (nI n) = some (zb (zan (zqt R n) i 0)) := z3thr hk hR hb (by omega) (by omega)
    rw [show m + (d + 1) + 1 = (m + d + 1) + 1 from rfl, zs_con, zsi_s]
    unfold f_X6_countOwnNames_44b f_X6_countOwnNames_77
    rw [if_neg (nI_nlt (by omega) (by omega)), z3own hk hR hb hn, zbd_s, t, zbd_s, nI_1, nI_1, zl_10, pk_div (by omega) (by decide) (by decide), ih (n / 10) c (j + 1) m (by omega) (by omega), ih (n / 10) (c + 1) (j + 1) m (by omega) (by omega)]
    unfold zog
    cases zow R n with
    | false =>
      rw [if_pos (show zb false = 0 from rfl), Bool.false_and, if_neg (by decide), Nat.zero_add]
    | true =>
      rw [if_neg (show ¬ zb true = 0 by decide), Bool.true_and]
      cases zan (zqt R n) i 0 with
      | false => rw [if_pos (show zb false = 0 from rfl), if_pos (by decide), Nat.add_assoc]
      | true => rw [if_neg (show ¬ zb true = 0 by decide), if_neg (by decide), Nat.zero_add]
theorem zs_coo {σ : zt_St} {k0 n : Nat} {a b : Int32} : f_X6_countOwnNames_4 σ k0 (n + 1) a b = f_X6_countOwnNames_4b σ k0 (f_X6_countOwnNames_4 σ k0 n) a b := rfl
theorem z3conO {σ : zt_St} {k0 M a : Nat} {R : zR} (hk : zK (k0 + 1) M R) (hR : zRC σ (k0 + 1) R) (hb : zRB R) (ha : σ k0 0 = nI a) (ha2 : a < 10000) (hu : ∀ i, i < R.1 → zun (zbs (zP R i)) a = true) : ∀ d i c m, i + d = R.1 → f_X6_countOwnNames_4 σ k0 (m + d + 1) (nI c) (nI i) = some (nI (c + zso R a d i)) := by
  have hM := hk.2.2.2.2
  intro d
  induction d with
  | zero =>
    intro i c m h
    rw [zs_coo]
    unfold f_X6_countOwnNames_4b
    rw [hR.1, if_pos (nI_le (by omega) (by omega))]
    rfl
  | succ d ih =>
    intro i c m h
    have b := hb i (by omega)
    have q := z3pa hk hR (show i < R.1 by omega)
    have hl := zbs_lt b.1
    have h4 := zfg4 (zbs (zP R i))
    have hf := zun_fl hl (hu i (by omega))
    rw [show m + (d + 1) + 1 = (m + d + 1) + 1 from rfl, zs_coo, zso_s]
    unfold f_X6_countOwnNames_4b
    rw [hR.1, if_neg (nI_ge (by omega) (by omega)), q.1, zbd_s, z3bs (by omega), zbd_s, z3fg hl, zbd_s, ha, z3fg ha2, zbd_s, pk_sub hf, zfu (zfg (zbs (zP R i)) - zfg a + 1) (by omega), zl_0, z3conI hk hR hb (by omega) (by omega) _ _ _ _ _ (by omega) hl, ih (i + 1) _ m (by omega), Nat.add_assoc]
theorem z3con {σ : zt_St} {k0 M a : Nat} {R : zR} (hk : zK (k0 + 1) M R) (hR : zRC σ (k0 + 1) R) (hb : zRB R) (ha : σ k0 0 = nI a) (ha2 : a < 10000) (hu : ∀ i, i < R.1 → zun (zbs (zP R i)) a = true) : f_X6_countOwnNames σ k0 = some (nI (zso R a R.1 0)) := by
  have hM := hk.2.2.2.2
  unfold f_X6_countOwnNames
  rw [zfu R.1 (by omega), zl_0, z3conO hk hR hb ha ha2 hu R.1 0 0 _ (by omega), Nat.zero_add]
theorem zs_nmi {σ : zt_St} {n : Nat} {rc : Int32 → Int32 → Int32 → Option Int32} {a b c d : Int32} : f_X9_names_33 σ rc (n + 1) a b c d = f_X9_names_33b σ rc (f_X9_names_33 σ rc n) a b c d := rfl
theorem z9nmI {σ : zt_St} {s i : Nat} {R : zR} {rc : Int32 → Int32 → Int32 → Option Int32} (hk : zM s R) (hR : zRM σ s R) (hb : zRB R) (hi : i < R.1) : ∀ d c m, d ≤ zfg (zbs (zP R i)) + 1 → f_X9_names_33 σ rc (m + d + 1) (nI s) (nI c) (nI (32 * s + i)) (nI (zfg (zbs (zP R i)) + 1 - d)) = rc (nI s) (nI (c + zsi (zog R i) d (zbs (zP R i)))) (nI (32 * s + (i + 1))) := by
  have b := hb i hi
  have q := hR.2 i hi
  have hl := zbs_lt b.1
  have h4 := zfg4 (zbs (zP R i))
  obtain ⟨hs, h30⟩ := hk
  intro d
  induction d with
  | zero =>
    intro c m h
    rw [zs_nmi]
    unfold f_X9_names_33b
    rw [zgd_i (by omega) (by decide), nI_clamp (by omega), q.1, z9bs (by omega), zbd_s, z9fg hl, zbd_s, if_pos (nI_lt (by omega) (by omega)), nI_1]
    rfl
  | succ d ih =>
    intro c m h
    have hx : zhd (zbs (zP R i)) (zfg (zbs (zP R i)) + 1 - (d + 1)) = zbs (zP R i) / ztn d := by
      unfold zhd
      rw [show zfg (zbs (zP R i)) - (zfg (zbs (zP R i)) + 1 - (d + 1)) = d by omega]
    have hx2 : zbs (zP R i) / ztn d < 10000 := Nat.lt_of_le_of_lt (Nat.div_le_self _ _) hl
    have t : f_X9_wasAhead σ (nI s) (nI (32 * s + i)) (nI (zbs (zP R i) / ztn d)) = some (zb (zan (zqt R (zbs (zP R i) / ztn d)) i 0)) := z9wah ⟨hs, h30⟩ hR hb hx2 (by omega)
    have i0 := ih c m (by omega)
    have i1 := ih (c + 1) m (by omega)
    rw [show zfg (zbs (zP R i)) + 1 - d = zfg (zbs (zP R i)) + 1 - (d + 1) + 1 by omega] at i0 i1
    rw [show m + (d + 1) + 1 = (m + d + 1) + 1 from rfl, zs_nmi, zsi_l _ d _ (by omega)]
    unfold f_X9_names_33b f_X9_names_92 f_X9_names_93
    rw [zgd_i (show 32 * s + i < 416 by omega) (by decide), nI_clamp (show 32 * s + i < 2 ^ 31 by omega), q.1, z9bs (by omega), zbd_s, z9fg hl, zbd_s, if_neg (nI_nlt (by omega) (by omega)), zgd_i (show 32 * s + i < 416 by omega) (by decide), zbd_s, z9hd hl (by omega), zbd_s, hx, z9own ⟨hs, h30⟩ hR hb hx2, zbd_s, t, zbd_s, nI_1, nI_1, show nI c + 0 = nI c from nI_add c 0, i0, i1]
    generalize zsi (zog R i) d (zbs (zP R i)) = X
    unfold zog
    cases zow R (zbs (zP R i) / ztn d) with
    | false =>
      rw [if_pos (show zb false = 0 from rfl), Bool.false_and, if_neg (by decide)]
      rfl
    | true =>
      rw [if_neg (show ¬ zb true = 0 by decide), Bool.true_and]
      cases zan (zqt R (zbs (zP R i) / ztn d)) i 0 with
      | false => rw [if_pos (show zb false = 0 from rfl), if_pos (by decide), show c + 1 + X = c + (X + 1) by omega]
      | true => rw [if_neg (show ¬ zb true = 0 by decide), if_neg (by decide)]; rfl
theorem zs_nmo {σ : zt_St} {n : Nat} {a b c : Int32} : f_X9_names_7 σ (n + 1) a b c = f_X9_names_7b σ (f_X9_names_7 σ n) a b c := rfl
theorem z9nmO {σ : zt_St} {z a : Nat} {R : zR} (hz : z < 6) (h30 : R.1 ≤ 30) (hR : zRM σ z R) (hb : zRB R) (ha : σ 95 z = nI a) (ha2 : a < 10000) (hu : ∀ i, i < R.1 → zun (zbs (zP R i)) a = true) : ∀ d i c m, i + d = R.1 → f_X9_names_7 σ (m + d + 1) (nI z) (nI c) (nI (32 * z + i)) = some (nI (c + zso R a d i)) := by
  have hk : zM z R := ⟨by omega, h30⟩
  intro d
  induction d with
  | zero =>
    intro i c m h
    rw [zs_nmo]
    unfold f_X9_names_7b
    rw [zgd_i (show z < 13 by omega) (by omega), nI_clamp (by omega), hR.1, zl_32, pk_mul, nI_add, if_pos (nI_le (by omega) (by omega))]
    rfl
  | succ d ih =>
    intro i c m h
    have b := hb i (by omega)
    have hl := zbs_lt b.1
    have h4 := zfg4 (zbs (zP R i))
    have hf := zun_fl hl (hu i (by omega))
    have w := @z9nmI σ z i R (f_X9_names_7 σ (m + d + 1)) hk hR hb (by omega) (zfg (zbs (zP R i)) - zfg a + 1) c (4999 - (zfg (zbs (zP R i)) - zfg a + 1)) (by omega)
    rw [show zfg (zbs (zP R i)) + 1 - (zfg (zbs (zP R i)) - zfg a + 1) = zfg a by omega] at w
    rw [show m + (d + 1) + 1 = (m + d + 1) + 1 from rfl, zs_nmo, zso_s]
    unfold f_X9_names_7b
    rw [zgd_i (show z < 13 by omega) (by omega), nI_clamp (by omega), hR.1, zl_32, pk_mul, nI_add, if_neg (nI_ge (by omega) (by omega)), zgd_i hz (by omega), ha, z9fg ha2, zbd_s, zfu (zfg (zbs (zP R i)) - zfg a + 1) (by omega), w, ih (i + 1) _ m (by omega), Nat.add_assoc]
theorem z9nm0 {σ : zt_St} {z a : Nat} {R : zR} (hz : z < 6) (h30 : R.1 ≤ 30) (hR : zRM σ z R) (hb : zRB R) (ha : σ 95 z = nI a) (ha2 : a < 10000) (hu : ∀ i, i < R.1 → zun (zbs (zP R i)) a = true) : f_X9_names σ (nI z) = some (nI (zso R a R.1 0)) := by
  unfold f_X9_names
  rw [zfu R.1 (by omega), zl_32, pk_mul, zl_0]
  exact (z9nmO hz h30 hR hb ha ha2 hu R.1 0 0 _ (by omega)).trans (by rw [Nat.zero_add])
