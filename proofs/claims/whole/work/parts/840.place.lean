/-! where an answer is looked for: the class's placeFor, the reference's encloser -/
def zth (R : zR) (n : Nat) : Bool := zan (zqt R n) R.1 0
def zen (R : zR) (a : Nat) : Nat → Nat → Nat
  | 0, n => n
  | d + 1, n => if n = a then n else if zth R (n / 10) = true then n / 10 else zen R a d (n / 10)
theorem zen_s {R : zR} {a d n : Nat} : zen R a (d + 1) n = if n = a then n else if zth R (n / 10) = true then n / 10 else zen R a d (n / 10) := rfl
theorem zen_le {R : zR} {a : Nat} : ∀ d n, zen R a d n ≤ n := by
  intro d
  induction d with
  | zero => intro n; exact Nat.le_refl n
  | succ d ih =>
    intro n
    rw [zen_s]
    have := ih (n / 10)
    split
    · omega
    · split <;> omega
def zpf (n : Nat) : Int32 := if n = 0 then -1 else nI (n * 10)
theorem zs_pf {σ : zt_St} {k0 k n : Nat} {a b : Int32} : f_X6_placeFor_19 σ k0 k (n + 1) a b = f_X6_placeFor_19b σ k0 k (f_X6_placeFor_19 σ k0 k n) a b := rfl
theorem z3p59 {σ : zt_St} {k0 k n : Nat} (hn : n < 100000) : f_X6_placeFor_59 σ k0 k (nI n) = some (zpf n) := by
  unfold f_X6_placeFor_59 zpf
  have k0 : nI n = 0 ↔ n = 0 := nI_eq (b := 0) (by omega) (by decide)
  simp only [k0, zl_10, pk_mul]
  split <;> rfl
theorem z3pfL {σ : zt_St} {k0 k M a : Nat} {R : zR} (hk : zK k M R) (hR : zRC σ k R) (hb : zRB R) (ha : σ k0 0 = nI a) (ha2 : a < 10000) : ∀ d n i m, i + d = 4 → n < 10000 → f_X6_placeFor_19 σ k0 k (m + d + 1) (nI n) (nI i) = some (zpf (zen R a d n)) := by
  intro d
  induction d with
  | zero =>
    intro n i m h hn
    rw [zs_pf]
    unfold f_X6_placeFor_19b
    rw [zl_4, if_pos (nI_le (by omega) (by omega))]
    exact z3p59 (by omega)
  | succ d ih =>
    intro n i m h hn
    have l1 := @zen_le R a d (n / 10)
    have t := @z3thr σ k M R (n / 10) R.1 hk hR hb (by omega) (Nat.le_refl _)
    rw [show m + (d + 1) + 1 = (m + d + 1) + 1 from rfl, zs_pf, zen_s]
    unfold f_X6_placeFor_19b
    rw [zl_4, if_neg (nI_ge (by omega) (by omega)), ha, zl_10, pk_div (by omega) (by decide) (by decide), hR.1, t, zbd_s, nI_1, ih (n / 10) (i + 1) m (by omega) (by omega), z3p59 (show n < 100000 by omega), z3p59 (show n / 10 < 100000 by omega)]
    simp only [nI_eq (show n < 2 ^ 31 by omega) (show a < 2 ^ 31 by omega)]
    by_cases c1 : n = a
    · rw [if_pos c1, if_pos c1]
    · rw [if_neg c1, if_neg c1]
      show (if zb (zth R (n / 10)) = 0 then _ else _) = _
      cases zth R (n / 10) with
      | false => rw [if_pos (show zb false = 0 from rfl), if_neg (by decide)]
      | true => rw [if_neg (show ¬ zb true = 0 by decide), if_pos rfl]
theorem z3pf {σ : zt_St} {k0 k M a n : Nat} {R : zR} (hk : zK k M R) (hR : zRC σ k R) (hb : zRB R) (ha : σ k0 0 = nI a) (ha2 : a < 10000) (hn : n < 10000) : f_X6_placeFor σ k0 k (nI n) = some (if zth R n = true then nI n else zpf (zen R a 4 n)) := by
  have t := @z3thr σ k M R n R.1 hk hR hb (by omega) (Nat.le_refl _)
  unfold f_X6_placeFor
  rw [hR.1, t, zbd_s, zfu 4 (by omega), zl_0, z3pfL hk hR hb ha ha2 4 n 0 _ (by omega) hn]
  show (if zb (zth R n) = nI 0 then _ else _) = _
  simp only [zb0]
  cases zth R n with
  | false => rw [if_pos rfl, if_neg (by decide)]
  | true => rw [if_neg (by decide), if_pos rfl]
def zec (R : zR) (a : Nat) : Nat → Nat → Nat
  | 0, _ => a
  | e + 1, n => if zth R n = true then n else zec R a e (n / 10)
theorem zec_s {R : zR} {a e n : Nat} : zec R a (e + 1) n = if zth R n = true then n else zec R a e (n / 10) := rfl
theorem zs_enc {σ : zt_St} {n : Nat} {a b c d : Int32} : f_X9_encloser_6 σ (n + 1) a b c d = f_X9_encloser_6b σ (f_X9_encloser_6 σ n) a b c d := rfl
theorem ztn_s {j : Nat} (h : j < 4) : ztn (j + 1) = ztn j * 10 := by
  have : j = 0 ∨ j = 1 ∨ j = 2 ∨ j = 3 := by omega
  rcases this with q | q | q | q <;> subst q <;> rfl
theorem zhd_s {n k : Nat} (hk : k < zfg n) : zhd n k = zhd n (k + 1) / 10 := by
  have := zfg4 n
  unfold zhd
  rw [show zfg n - k = (zfg n - (k + 1)) + 1 by omega, ztn_s (by omega), Nat.div_div_eq_div_mul]
theorem z9encL {σ : zt_St} {s z a n0 : Nat} {R : zR} (hk : zM s R) (hR : zRM σ s R) (hb : zRB R) (hz : z < 6) (ha : σ 95 z = nI a) (ha2 : a < 10000) (hn : n0 < 10000) : ∀ e m, zfg a + e ≤ zfg n0 → f_X9_encloser_6 σ (m + e + 1) (nI s) (nI z) (nI n0) (nI (zfg a + e)) = some (nI (zec R a e (zhd n0 (zfg a + e)))) := by
  have h4 := zfg4 n0
  have h5 := zfg4 a
  intro e
  induction e with
  | zero =>
    intro m h
    rw [zs_enc]
    unfold f_X9_encloser_6b
    rw [zgd_i (by omega) (by omega), nI_clamp (by omega), ha, z9fg ha2, zbd_s, if_pos (nI_le (by omega) (by omega)), zgd_i (by omega) (by omega)]
    rfl
  | succ e ih =>
    intro m h
    have hl : zhd n0 (zfg a + (e + 1)) < 10000 := Nat.lt_of_le_of_lt (Nat.div_le_self _ _) hn
    have t : f_X9_isThere σ (nI s) (nI (zhd n0 (zfg a + (e + 1)))) = some (zb (zth R (zhd n0 (zfg a + (e + 1))))) := z9thr hk hR hb hl
    rw [show m + (e + 1) + 1 = (m + e + 1) + 1 from rfl, zs_enc, zec_s]
    unfold f_X9_encloser_6b
    rw [zgd_i (by omega) (by omega), nI_clamp (by omega), ha, z9fg ha2, zbd_s, if_neg (nI_ge (by omega) (by omega)), z9hd hn (by omega), zbd_s, t, zbd_s, zbd_s, show nI (zfg a + (e + 1)) + (-1) = nI (zfg a + e) from pk_m1 (zfg a + e), ih m (by omega), zhd_s (show zfg a + e < zfg n0 by omega)]
    cases zth R (zhd n0 (zfg a + (e + 1))) with
    | false => rw [if_pos (show zb false = 0 from rfl), if_neg (by decide)]; rfl
    | true => rw [if_neg (show ¬ zb true = 0 by decide), if_pos rfl]
theorem z9enc {σ : zt_St} {s z a n : Nat} {R : zR} (hk : zM s R) (hR : zRM σ s R) (hb : zRB R) (hz : z < 6) (ha : σ 95 z = nI a) (ha2 : a < 10000) (hn : n < 10000) (hu : zun n a = true) : f_X9_encloser σ (nI s) (nI z) (nI n) = some (nI (zec R a (zfg n - zfg a) n)) := by
  have h := zun_fl hn hu
  have h4 := zfg4 n
  have w := z9encL hk hR hb hz ha ha2 hn (zfg n - zfg a) (4999 - (zfg n - zfg a)) (by omega)
  rw [show zfg a + (zfg n - zfg a) = zfg n by omega, show zhd n (zfg n) = n by unfold zhd; rw [Nat.sub_self]; exact Nat.div_one n] at w
  unfold f_X9_encloser
  rw [z9fg hn, zbd_s, zfu (zfg n - zfg a) (by omega)]
  exact w
theorem zfg_d {n : Nat} (hn : n < 10000) (h : 0 < n) : zfg (n / 10) + 1 = zfg n := by
  unfold zfg
  repeat' split
  all_goals omega
theorem zec_e {R : zR} {a : Nat} (ha : a < 10000) : ∀ e n d, e ≤ d → n < 10000 → zun n a = true → zfg n = zfg a + e → zth R n = false → zen R a d n = zec R a e n := by
  intro e
  induction e with
  | zero =>
    intro n d hd hn hu hf ht
    have q : n = a := by
      have := (zhd_un hn ha).mpr (of_decide_eq_true hu)
      unfold zhd at this
      rw [hf, Nat.add_zero, Nat.sub_self] at this
      exact (Nat.div_one n).symm.trans this.2
    cases d with
    | zero => exact q
    | succ d => rw [zen_s, if_pos q]; exact q
  | succ e ih =>
    intro n d hd hn hu hf ht
    cases d with
    | zero => omega
    | succ d =>
      have q : n ≠ a := fun w => by rw [w] at hf; omega
      have h0 : 0 < n := by
        rcases Nat.eq_zero_or_pos n with w | w
        · rw [w] at hf
          have : zfg 0 = 0 := rfl
          omega
        · exact w
      have hf2 := zfg_d hn h0
      have hu2 : zun (n / 10) a = true := by
        unfold zun at hu ⊢
        have := of_decide_eq_true hu
        apply decide_eq_true
        omega
      rw [zen_s, if_neg q, zec_s, ht, if_neg (show ¬ false = true by decide)]
      cases e with
      | zero =>
        have q2 : n / 10 = a := by
          have := (zhd_un (show n / 10 < 10000 by omega) ha).mpr (of_decide_eq_true hu2)
          unfold zhd at this
          rw [show zfg (n / 10) - zfg a = 0 by omega] at this
          exact (Nat.div_one _).symm.trans this.2
        show _ = a
        split
        · exact q2
        · cases d with
          | zero => exact q2
          | succ d => rw [zen_s, if_pos q2]; exact q2
      | succ e =>
        rw [zec_s]
        cases ht2 : zth R (n / 10) with
        | true => rw [if_pos rfl, if_pos rfl]
        | false =>
          rw [if_neg (show ¬ false = true by decide), if_neg (show ¬ false = true by decide), ih (n / 10) d (by omega) (by omega) hu2 (by omega) ht2, zec_s, ht2, if_neg (show ¬ false = true by decide)]
