/-! names as natural numbers: the class's and the reference's methods on them are the same functions -/
theorem zl_0 : (0 : Int32) = nI 0 := rfl
theorem zl_1 : (1 : Int32) = nI 1 := rfl
theorem zl_2 : (2 : Int32) = nI 2 := rfl
theorem zl_3 : (3 : Int32) = nI 3 := rfl
theorem zl_4 : (4 : Int32) = nI 4 := rfl
theorem zl_5 : (5 : Int32) = nI 5 := rfl
theorem zl_6 : (6 : Int32) = nI 6 := rfl
theorem zl_7 : (7 : Int32) = nI 7 := rfl
theorem zl_8 : (8 : Int32) = nI 8 := rfl
theorem zl_9 : (9 : Int32) = nI 9 := rfl
theorem zl_10 : (10 : Int32) = nI 10 := rfl
theorem zl_11 : (11 : Int32) = nI 11 := rfl
theorem zl_12 : (12 : Int32) = nI 12 := rfl
theorem zl_13 : (13 : Int32) = nI 13 := rfl
theorem zl_16 : (16 : Int32) = nI 16 := rfl
theorem zl_20 : (20 : Int32) = nI 20 := rfl
theorem zl_30 : (30 : Int32) = nI 30 := rfl
theorem zl_31 : (31 : Int32) = nI 31 := rfl
theorem zl_32 : (32 : Int32) = nI 32 := rfl
theorem zl_40 : (40 : Int32) = nI 40 := rfl
theorem zl_50 : (50 : Int32) = nI 50 := rfl
theorem zl_60 : (60 : Int32) = nI 60 := rfl
theorem zl_99 : (99 : Int32) = nI 99 := rfl
theorem zl_100 : (100 : Int32) = nI 100 := rfl
theorem zl_384 : (384 : Int32) = nI 384 := rfl
theorem zl_416 : (416 : Int32) = nI 416 := rfl
theorem zl_996 : (996 : Int32) = nI 996 := rfl
theorem zl_997 : (997 : Int32) = nI 997 := rfl
theorem zl_999 : (999 : Int32) = nI 999 := rfl
theorem zl_1000 : (1000 : Int32) = nI 1000 := rfl
theorem zl_9990 : (9990 : Int32) = nI 9990 := rfl
theorem zl_9999 : (9999 : Int32) = nI 9999 := rfl
theorem zl_10000 : (10000 : Int32) = nI 10000 := rfl
theorem zbd_s {α β : Type} {a : α} {f : α → Option β} : zt_bd (some a) f = f a := rfl
theorem zlt_e {α β : Type} {a : α} {f : α → Option β} : zt_lt a f = f a := rfl
theorem zgd_t {α : Type} {x : Option α} : zt_gd true x = x := rfl
theorem zgI {a n : Nat} (h : a < n) (hn : n < 2 ^ 31) : zt_gI (nI a) n = true := by
  unfold zt_gI
  rw [nI_toInt (by omega), Bool.and_eq_true, decide_eq_true_eq, decide_eq_true_eq]
  omega
theorem zgd_i {α : Type} {x : Option α} {a n : Nat} (h : a < n) (hn : n < 2 ^ 31) : zt_gd (zt_gI (nI a) n) x = x := by rw [zgI h hn]; rfl
def zb (b : Bool) : Int32 := if b = true then nI 1 else nI 0
theorem zb_t {p : Prop} (d : Decidable p) (h : p) : some (nI 1) = some (zb (@decide p d)) := by rw [decide_eq_true h]; rfl
theorem zb_f {p : Prop} (d : Decidable p) (h : ¬ p) : some (nI 0) = some (zb (@decide p d)) := by rw [decide_eq_false h]; rfl
theorem zb0 {b : Bool} : (zb b = nI 0) = (b = false) := by cases b <;> decide
theorem zb1 {b : Bool} : (zb b = nI 1) = (b = true) := by cases b <;> decide
theorem zbg {b : Bool} : (zb b == 0 || zb b == 1) = true := by cases b <;> decide
def zfg (n : Nat) : Nat := if n < 1 then 0 else if n < 10 then 1 else if n < 100 then 2 else if n < 1000 then 3 else 4
def ztn (k : Nat) : Nat := if k = 0 then 1 else if k = 1 then 10 else if k = 2 then 100 else if k = 3 then 1000 else if k = 4 then 10000 else 1
def zbs (n : Nat) : Nat := if n % 10 = 0 then n / 10 else n
def zun (n a : Nat) : Bool := decide (n = a ∨ n / 10 = a ∨ n / 10 / 10 = a ∨ n / 10 / 10 / 10 = a ∨ a = 0)
def znm (n : Nat) : Bool := decide (n ≤ 9999 ∧ (n = 0 ∨ n % 10 ≠ 0 ∧ (n / 10 = 0 ∨ n / 10 % 10 ≠ 0 ∧ (n / 10 / 10 = 0 ∨ n / 10 / 10 % 10 ≠ 0 ∧ (n / 10 / 10 / 10 = 0 ∨ n / 10 / 10 / 10 % 10 ≠ 0)))))
def zsr (n : Nat) : Bool := decide (10 ≤ n ∧ n ≤ 9990 ∧ n % 10 = 0) && znm (n / 10)
def zpl (n : Nat) : Bool := znm n || zsr n
def zod (n : Nat) : Nat := if n < 1 then 0 else if n < 10 then (n + 1) * 1331 else if n < 100 then (n / 10 + 1) * 1331 + (n % 10 + 1) * 121 else if n < 1000 then (n / 100 + 1) * 1331 + (n / 10 % 10 + 1) * 121 + (n % 10 + 1) * 11 else (n / 1000 + 1) * 1331 + (n / 100 % 10 + 1) * 121 + (n / 10 % 10 + 1) * 11 + (n % 10 + 1)
theorem zrm {a : Nat} (h : a < 2 ^ 31) : nI a - nI a / nI 10 * nI 10 = nI (a % 10) := pk_rem h (by decide) (by decide)
theorem zfu8 : zt_FU = 4990 + 10 := rfl

theorem zs_F3 {n : Nat} {a b c : Int32} : f_X3_figures_4 (n + 1) a b c = f_X3_figures_4b (f_X3_figures_4 n) a b c := rfl
theorem zpw : ∀ a, a < 5 → f_X3_power (nI a) = some (nI (ztn a)) := by decide +kernel
theorem zpwS : ∀ a, a < 5 → ∀ b, b < 5 → f_X3_power (nI a - nI b) = some (nI (ztn (a - b))) := by decide +kernel
theorem zF3s {m i c n : Nat} (hi : i < 4) (hn : n < 10000) (hc : c < 10) : f_X3_figures_4 (m + 1) (nI n) (nI c) (nI i) = if n < ztn i then some (nI c) else f_X3_figures_4 m (nI n) (nI (c + 1)) (nI (i + 1)) := by
  have h2 : ztn i < 2 ^ 31 := by unfold ztn; (repeat' split) <;> omega
  rw [zs_F3]
  unfold f_X3_figures_4b
  rw [zl_4, if_neg (by rw [nI_leI (by omega) (by omega)]; omega), zpw i (by omega), zbd_s]
  simp only [nI_ltI (show n < 2 ^ 31 by omega) h2, nI_1]
theorem zF3e {m c n : Nat} : f_X3_figures_4 (m + 1) (nI n) (nI c) (nI 4) = some (nI c) := by
  rw [zs_F3]
  unfold f_X3_figures_4b
  rw [zl_4, if_pos (by decide)]
theorem z3fg {n : Nat} (hn : n < 10000) : f_X3_figures (nI n) = some (nI (zfg n)) := by
  unfold f_X3_figures
  rw [zfu8, zl_0, zF3s (by omega) hn (by omega), zF3s (by omega) hn (by omega), zF3s (by omega) hn (by omega), zF3s (by omega) hn (by omega), zF3e]
  show (if n < 1 then some (nI 0) else if n < 10 then some (nI 1) else if n < 100 then some (nI 2) else if n < 1000 then some (nI 3) else some (nI 4)) = _
  unfold zfg
  repeat' split
  all_goals rfl
theorem zs_F9 {n : Nat} {a b : Int32} : f_X9_figures_4 (n + 1) a b = f_X9_figures_4b (f_X9_figures_4 n) a b := rfl
theorem zF9s {m c n : Nat} (hn : n < 2 ^ 31) : f_X9_figures_4 (m + 1) (nI c) (nI n) = if n = 0 then some (nI c) else f_X9_figures_4 m (nI (c + 1)) (nI (n / 10)) := by
  rw [zs_F9]
  unfold f_X9_figures_4b
  rw [zl_0, zl_10, zl_1, pk_div hn (by decide) (by decide), nI_add]
  simp only [nI_leI hn (show 0 < 2 ^ 31 by decide), Nat.le_zero_eq]
theorem z9fg {n : Nat} (hn : n < 10000) : f_X9_figures (nI n) = some (nI (zfg n)) := by
  unfold f_X9_figures
  rw [zfu8, zl_0, zF9s (by omega), zF9s (by omega), zF9s (by omega), zF9s (by omega), zF9s (by omega)]
  unfold zfg
  repeat' split
  all_goals first | rfl | (exfalso; omega)

theorem z9ten : ∀ a, a < 5 → ∀ b, b < 5 → f_X9_ten (nI a - nI b) = some (nI (ztn (a - b))) := by decide +kernel
theorem z9ten1 : ∀ a, a < 5 → ∀ b, b < 5 → b < a → f_X9_ten (nI a - nI 1 - nI b) = some (nI (ztn (a - 1 - b))) := by decide +kernel
theorem zfg4 (n : Nat) : zfg n < 5 := by unfold zfg; (repeat' split) <;> omega
theorem ztn0 (k : Nat) : 0 < ztn k ∧ ztn k < 10001 := by unfold ztn; (repeat' split) <;> omega

def zhd (n k : Nat) : Nat := n / ztn (zfg n - k)
theorem zgd_n {α : Type} {x : Option α} {a : Nat} (h : 0 < a) (hn : a < 2 ^ 31) : zt_gd (!(nI a == 0)) x = x := by
  have e : (nI a == 0) = false := by
    rw [beq_eq_false_iff_ne]
    exact nI_ne0 h hn
  rw [e]; rfl
theorem zgd_n0 {α : Type} {x : Option α} {a : Nat} (h : 0 < a) (hn : a < 2 ^ 31) : zt_gd (!(nI a == nI 0)) x = x := zgd_n h hn
theorem z9hd {n k : Nat} (hn : n < 10000) (hk : k < 5) : f_X9_head (nI n) (nI k) = some (nI (zhd n k)) := by
  have q := ztn0 (zfg n - k)
  unfold f_X9_head
  rw [z9fg hn, zbd_s, z9ten _ (zfg4 n) _ hk, zbd_s, zgd_n q.1 (by omega), pk_div (by omega) q.1 (by omega)]
  rfl
theorem zs_U3 {n : Nat} {a b c : Int32} : f_X3_isUnder_4 (n + 1) a b c = f_X3_isUnder_4b (f_X3_isUnder_4 n) a b c := rfl
theorem zU25 {a r : Nat} (ha : a < 2 ^ 31) (hr : r < 2 ^ 31) : f_X3_isUnder_25 (nI a) (nI r) = some (zb (decide (r = a))) := by
  unfold f_X3_isUnder_25
  simp only [nI_eq hr ha]
  split
  · next h => exact zb_t _ h
  · next h => exact zb_f _ h
theorem zU3s {m i a r : Nat} (hi : i < 4) (ha : a < 2 ^ 31) (hr : r < 2 ^ 31) : f_X3_isUnder_4 (m + 1) (nI a) (nI r) (nI i) = if r ≤ a then some (zb (decide (r = a))) else f_X3_isUnder_4 m (nI a) (nI (r / 10)) (nI (i + 1)) := by
  rw [zs_U3]
  unfold f_X3_isUnder_4b
  rw [zl_4, if_neg (by rw [nI_leI (by omega) (by omega)]; omega), zU25 ha hr, zl_10, pk_div hr (by decide) (by decide), nI_1]
  simp only [nI_leI hr ha]
theorem zU3e {m a r : Nat} (ha : a < 2 ^ 31) (hr : r < 2 ^ 31) : f_X3_isUnder_4 (m + 1) (nI a) (nI r) (nI 4) = some (zb (decide (r = a))) := by
  rw [zs_U3]
  unfold f_X3_isUnder_4b
  rw [zl_4, if_pos (by decide), zU25 ha hr]
theorem zcg {p q : Prop} (d : Decidable p) (e : Decidable q) (h : p ↔ q) : some (zb (@decide p d)) = some (zb (@decide q e)) := by
  by_cases c : p
  · rw [decide_eq_true c, decide_eq_true (h.mp c)]
  · rw [decide_eq_false c, decide_eq_false (fun w => c (h.mpr w))]
theorem z3un {n a : Nat} (hn : n < 10000) (ha : a < 2 ^ 31) : f_X3_isUnder (nI n) (nI a) = some (zb (zun n a)) := by
  unfold f_X3_isUnder
  rw [zfu8, zl_0, zU3s (by omega) ha (by omega), zU3s (by omega) ha (by omega), zU3s (by omega) ha (by omega), zU3s (by omega) ha (by omega), zU3e ha (by omega)]
  unfold zun
  repeat' split
  all_goals exact zcg _ _ (by omega)
theorem zhd_un {n a : Nat} (hn : n < 10000) (ha : a < 10000) : (zfg a ≤ zfg n ∧ zhd n (zfg a) = a) ↔ (n = a ∨ n / 10 = a ∨ n / 10 / 10 = a ∨ n / 10 / 10 / 10 = a ∨ a = 0) := by
  have e0 : ztn 0 = 1 := rfl
  have e1 : ztn 1 = 10 := rfl
  have e2 : ztn 2 = 100 := rfl
  have e3 : ztn 3 = 1000 := rfl
  have e4 : ztn 4 = 10000 := rfl
  have f : ∀ m, m < 10000 → (zfg m = 0 ∧ m = 0 ∨ zfg m = 1 ∧ 1 ≤ m ∧ m < 10 ∨ zfg m = 2 ∧ 10 ≤ m ∧ m < 100 ∨ zfg m = 3 ∧ 100 ≤ m ∧ m < 1000 ∨ zfg m = 4 ∧ 1000 ≤ m) := by
    intro m hm
    unfold zfg
    (repeat' split) <;> omega
  have ha' := f a ha
  have hn' := f n hn
  unfold zhd
  rcases ha' with q | q | q | q | q <;> rcases hn' with w | w | w | w | w <;> rw [q.1, w.1] <;> refine ⟨fun ⟨h1, h2⟩ => ?_, fun h => ⟨by omega, ?_⟩⟩
  all_goals simp only [e0, e1, e2, e3, e4, Nat.sub_self, Nat.sub_zero, Nat.zero_sub, Nat.reduceSub] at *
  all_goals omega
theorem z9un {n a : Nat} (hn : n < 10000) (ha : a < 10000) : f_X9_isUnder (nI n) (nI a) = some (zb (zun n a)) := by
  have q := zhd_un hn ha
  have hf := zfg4 n
  have hg := zfg4 a
  have hd : zhd n (zfg a) < 2 ^ 31 := Nat.lt_of_le_of_lt (Nat.div_le_self _ _) (by omega)
  unfold f_X9_isUnder
  rw [z9fg ha, zbd_s, z9fg hn, zbd_s, z9hd hn hg, zbd_s]
  simp only [nI_ltI (show zfg n < 2 ^ 31 by omega) (show zfg a < 2 ^ 31 by omega), nI_eq hd (show a < 2 ^ 31 by omega)]
  unfold zun
  split
  · exact zb_f _ (by omega)
  · split
    · exact zb_t _ (by omega)
    · exact zb_f _ (by omega)
theorem z9us {n a : Nat} (hn : n < 10000) (ha : a < 10000) : f_X9_isStrictly (nI n) (nI a) = some (zb (decide (n ≠ a) && zun n a)) := by
  unfold f_X9_isStrictly
  rw [z9un hn ha, zbd_s]
  simp only [nI_eq (show n < 2 ^ 31 by omega) (show a < 2 ^ 31 by omega)]
  by_cases h : n = a
  · rw [if_pos h, decide_eq_false (fun q => q h)]; rfl
  · rw [if_neg h, decide_eq_true h]
    cases zun n a <;> rfl

theorem z3bs {n : Nat} (hn : n < 2 ^ 31) : f_X3_nameOf (nI n) = some (nI (zbs n)) := by
  unfold f_X3_nameOf zbs
  rw [zl_10, zrm hn, zl_0, pk_div hn (by decide) (by decide)]
  simp only [nI_eq (show n % 10 < 2 ^ 31 by omega) (show 0 < 2 ^ 31 by decide)]
  split <;> rfl
theorem z9bs {n : Nat} (hn : n < 2 ^ 31) : f_X9_base (nI n) = some (nI (zbs n)) := by
  unfold f_X9_base zbs
  rw [zl_10, zrm hn, zl_0, pk_div hn (by decide) (by decide)]
  simp only [nI_leI hn (show 0 < 2 ^ 31 by decide), nI_eq (show n % 10 < 2 ^ 31 by omega) (show 0 < 2 ^ 31 by decide)]
  repeat' split
  · have e : n = 0 := by omega
    rw [e]
  · omega
  all_goals rfl
theorem zbs_lt {n : Nat} (hn : n < 10000) : zbs n < 10000 := by unfold zbs; split <;> omega

theorem zs_N3 {n : Nat} {a b : Int32} : f_X3_isName_17 (n + 1) a b = f_X3_isName_17b (f_X3_isName_17 n) a b := rfl
theorem zN3s {m i r : Nat} (hi : i < 4) (hr : r < 2 ^ 31) : f_X3_isName_17 (m + 1) (nI r) (nI i) = if r = 0 then some (nI 1) else if r % 10 = 0 then some (nI 0) else f_X3_isName_17 m (nI (r / 10)) (nI (i + 1)) := by
  rw [zs_N3]
  unfold f_X3_isName_17b
  rw [zl_4, if_neg (by rw [nI_leI (by omega) (by omega)]; omega), zl_10, zrm hr, zl_0, pk_div hr (by decide) (by decide), nI_1]
  simp only [nI_leI hr (show 0 < 2 ^ 31 by decide), nI_eq (show r % 10 < 2 ^ 31 by omega) (show 0 < 2 ^ 31 by decide), Nat.le_zero_eq]
  rfl
theorem zN3e {m : Nat} {x : Int32} : f_X3_isName_17 (m + 1) x (nI 4) = some (nI 1) := by
  rw [zs_N3]
  unfold f_X3_isName_17b
  rw [zl_4, if_pos (by decide)]
  rfl
theorem z3nm {n : Nat} (hn : n < 2 ^ 31) : f_X3_isName (nI n) = some (zb (znm n)) := by
  unfold f_X3_isName
  rw [zl_0, zl_9999, if_neg (by rw [nI_ltI hn (by decide)]; omega), zfu8, zN3s (by omega) hn, zN3s (by omega) (by omega), zN3s (by omega) (by omega), zN3s (by omega) (by omega), zN3e]
  simp only [nI_leI hn (show 9999 < 2 ^ 31 by decide)]
  unfold znm
  repeat' split
  all_goals first | exact zb_t _ (by omega) | exact zb_f _ (by omega)
theorem z3nmN {x : Int32} (h : x < 0) : f_X3_isName x = some (nI 0) := by
  unfold f_X3_isName
  rw [if_pos h]
  rfl
theorem zs_N9 {n : Nat} {a b : Int32} : f_X9_isName_11 (n + 1) a b = f_X9_isName_11b (f_X9_isName_11 n) a b := rfl
theorem zN9s {m r : Nat} (hr : r < 2 ^ 31) : f_X9_isName_11 (m + 1) (nI 1) (nI r) = if r = 0 then some (nI 1) else if r % 10 = 0 then f_X9_isName_11 m (nI 0) (nI (r / 10)) else f_X9_isName_11 m (nI 1) (nI (r / 10)) := by
  rw [zs_N9]
  unfold f_X9_isName_11b f_X9_isName_31
  rw [zl_10, zrm hr, zl_0, zl_1, pk_div hr (by decide) (by decide), if_neg (show ¬ nI 1 = nI 0 by decide)]
  simp only [nI_leI hr (show 0 < 2 ^ 31 by decide), nI_leI (show r % 10 < 2 ^ 31 by omega) (show 0 < 2 ^ 31 by decide), Nat.le_zero_eq]
  rfl
theorem zN9e {m : Nat} {x : Int32} : f_X9_isName_11 (m + 1) (nI 0) x = some (nI 0) := by
  rw [zs_N9]
  unfold f_X9_isName_11b
  split
  · rfl
  · rw [if_pos (show nI 0 = 0 by rfl)]; rfl
theorem z9in {a l h : Nat} (ha : a < 2 ^ 31) (hl : l < 2 ^ 31) (hh : h < 2 ^ 31) : f_X9_in (nI a) (nI l) (nI h) = some (zb (decide (l ≤ a ∧ a ≤ h))) := by
  unfold f_X9_in
  rw [zl_0, zl_1]
  simp only [nI_ltI ha hl, nI_ltI hh ha]
  repeat' split
  all_goals first | exact zb_t _ (by omega) | exact zb_f _ (by omega)
theorem z9nm {n : Nat} (hn : n < 2 ^ 31) : f_X9_isName (nI n) = some (zb (znm n)) := by
  unfold f_X9_isName
  rw [zl_0, zl_9999, z9in hn (by decide) (by decide), zbd_s]
  by_cases h : n ≤ 9999
  · rw [decide_eq_true (show 0 ≤ n ∧ n ≤ 9999 by omega), show zb true = nI 1 from rfl, zfu8, zN9s (by omega), zN9s (by omega), zN9s (by omega), zN9s (by omega), zN9s (by omega), zN9e, zN9e, zN9e, zN9e]
    unfold znm
    repeat' split
    all_goals first | exact zb_t _ (by omega) | exact zb_f _ (by omega) | (exfalso; omega)
  · rw [decide_eq_false (show ¬ (0 ≤ n ∧ n ≤ 9999) by omega), show zb false = nI 0 from rfl, zfu8, zN9e]
    unfold znm
    exact zb_f _ (by omega)
theorem z9inN {x l h : Int32} (q : x < l) : f_X9_in x l h = some (nI 0) := by
  unfold f_X9_in
  rw [if_pos q]
  rfl
theorem z9nmN {x : Int32} (h : x < 0) : f_X9_isName x = some (nI 0) := by
  unfold f_X9_isName
  rw [z9inN h, zbd_s, zfu8, zN9e]
theorem z3sr {n : Nat} (hn : n < 2 ^ 31) : f_X3_isStar (nI n) = some (zb (zsr n)) := by
  unfold f_X3_isStar zsr
  rw [zl_10, zrm hn, zl_0, zl_1, zl_9990, pk_div hn (by decide) (by decide), z3nm (by omega), zbd_s]
  simp only [nI_ltI hn (show 10 < 2 ^ 31 by decide), nI_ltI (show 9990 < 2 ^ 31 by decide) hn, nI_eq (show n % 10 < 2 ^ 31 by omega) (show 0 < 2 ^ 31 by decide), zb0]
  by_cases h : 10 ≤ n ∧ n ≤ 9990 ∧ n % 10 = 0
  · rw [decide_eq_true h, if_neg (by omega), if_pos (by omega), if_neg (show ¬ 9990 < n by omega)]
    cases znm (n / 10) <;> rfl
  · rw [decide_eq_false h]
    show _ = some (nI 0)
    repeat' split
    all_goals first | rfl | (exfalso; omega)
theorem z3srN {x : Int32} (h : x < 0) : f_X3_isStar x = some (nI 0) := by
  unfold f_X3_isStar
  rw [if_pos (by
    rw [Int32.lt_iff_toInt_lt] at h ⊢
    have e : (0 : Int32).toInt = 0 := rfl
    have f : (10 : Int32).toInt = 10 := rfl
    omega)]
  rfl
theorem z9sr {n : Nat} (hn : n < 2 ^ 31) : f_X9_isStar (nI n) = some (zb (zsr n)) := by
  unfold f_X9_isStar zsr
  rw [zl_10, zrm hn, zl_0, zl_1, zl_1000, pk_div hn (by decide) (by decide), z9nm (by omega), zbd_s]
  simp only [nI_leI hn (show 0 < 2 ^ 31 by decide), nI_leI (show 1000 < 2 ^ 31 by decide) (show n / 10 < 2 ^ 31 by omega), nI_eq (show n % 10 < 2 ^ 31 by omega) (show 0 < 2 ^ 31 by decide), zb0]
  by_cases h : 10 ≤ n ∧ n ≤ 9990 ∧ n % 10 = 0
  · rw [decide_eq_true h, if_neg (by omega), if_pos (by omega), if_neg (show ¬ 1000 ≤ n / 10 by omega)]
    cases znm (n / 10) <;> rfl
  · rw [decide_eq_false h]
    show _ = some (nI 0)
    repeat' split
    all_goals first | rfl | (exfalso; omega)
theorem z9srN {x : Int32} (h : x < 0) : f_X9_isStar x = some (nI 0) := by
  unfold f_X9_isStar
  rw [if_pos (by
    rw [Int32.lt_iff_toInt_lt] at h
    rw [Int32.le_iff_toInt_le]
    have e : (0 : Int32).toInt = 0 := rfl
    omega)]
  rfl
theorem z3pl {n : Nat} (hn : n < 2 ^ 31) : f_X3_isPlace (nI n) = some (zb (zpl n)) := by
  unfold f_X3_isPlace f_X3_isPlace_14 zpl
  rw [z3nm hn, zbd_s, z3sr hn, zbd_s, zl_0, zl_1]
  simp only [zb0]
  cases znm n <;> cases zsr n <;> rfl
theorem z3plN {x : Int32} (h : x < 0) : f_X3_isPlace x = some (nI 0) := by
  unfold f_X3_isPlace
  rw [z3nmN h, zbd_s, z3srN h, zbd_s]
  rfl
theorem z9pl {n : Nat} (hn : n < 2 ^ 31) : f_X9_isPlace (nI n) = some (zb (zpl n)) := by
  unfold f_X9_isPlace f_X9_isPlace_14 zpl
  rw [z9nm hn, zbd_s, z9sr hn, zbd_s, zl_0, zl_1]
  simp only [zb0]
  cases znm n <;> cases zsr n <;> rfl
theorem z9plN {x : Int32} (h : x < 0) : f_X9_isPlace x = some (nI 0) := by
  unfold f_X9_isPlace
  rw [z9nmN h, zbd_s, z9srN h, zbd_s]
  rfl
theorem znm_lt {n : Nat} (h : znm n = true) : n < 10000 := by
  unfold znm at h
  have := of_decide_eq_true h
  omega
theorem zpl_lt {n : Nat} (h : zpl n = true) : n < 10000 := by
  unfold zpl zsr at h
  rw [Bool.or_eq_true, Bool.and_eq_true] at h
  rcases h with h | h
  · exact znm_lt h
  · have := of_decide_eq_true h.1
    omega
theorem zpl_sr {n : Nat} (h : zpl n = true) : zsr n = decide (n ≠ 0 ∧ n % 10 = 0) := by
  unfold zpl at h
  cases hs : zsr n with
  | true =>
    unfold zsr at hs
    rw [Bool.and_eq_true] at hs
    have := of_decide_eq_true hs.1
    rw [decide_eq_true]
    omega
  | false =>
    rw [hs, Bool.or_false] at h
    unfold znm at h
    have := of_decide_eq_true h
    rw [decide_eq_false]
    omega

theorem zs_O3 {n : Nat} {a b c d : Int32} : f_X3_order_9 (n + 1) a b c d = f_X3_order_9b (f_X3_order_9 n) a b c d := rfl
theorem zO3s {m n c k i : Nat} (hn : n < 10000) (hc : c < 5) (hi : i < 5) : f_X3_order_9 (m + 1) (nI n) (nI c) (nI k) (nI i) = f_X3_order_9 m (nI n) (nI c) (nI (k * 11 + (if c < i then 0 else n / ztn (c - i) % 10 + 1))) (nI (i + 1)) := by
  have q := ztn0 (c - i)
  have hd : n / ztn (c - i) < 2 ^ 31 := Nat.lt_of_le_of_lt (Nat.div_le_self _ _) (by omega)
  rw [zs_O3]
  unfold f_X3_order_9b f_X3_order_48 f_X3_order_49
  rw [zl_4, if_neg (by rw [nI_ltI (by omega) (by omega)]; omega), zpwS c hc i hi, zbd_s, zl_0, if_neg (show ¬ nI (ztn (c - i)) ≤ nI 0 by rw [nI_leI (by omega) (by omega)]; omega), zgd_n0 q.1 (by omega), pk_div (by omega) q.1 (by omega), zl_10, zrm hd, zl_1, zl_11, nI_add, pk_mul, nI_add, nI_add, nI_add]
  simp only [nI_ltI (show c < 2 ^ 31 by omega) (show i < 2 ^ 31 by omega)]
  split <;> rfl
theorem zO3e {m : Nat} {a b c : Int32} : f_X3_order_9 (m + 1) a b c (nI 5) = some c := by
  rw [zs_O3]
  unfold f_X3_order_9b
  rw [zl_4, if_pos (by decide)]
theorem zfg_c {n : Nat} (hn : n < 10000) : (zfg n = 0 ∧ n = 0 ∧ zod n = 0) ∨ (zfg n = 1 ∧ 1 ≤ n ∧ n < 10 ∧ zod n = (n + 1) * 1331) ∨ (zfg n = 2 ∧ 10 ≤ n ∧ n < 100 ∧ zod n = (n / 10 + 1) * 1331 + (n % 10 + 1) * 121) ∨ (zfg n = 3 ∧ 100 ≤ n ∧ n < 1000 ∧ zod n = (n / 100 + 1) * 1331 + (n / 10 % 10 + 1) * 121 + (n % 10 + 1) * 11) ∨ (zfg n = 4 ∧ 1000 ≤ n ∧ zod n = (n / 1000 + 1) * 1331 + (n / 100 % 10 + 1) * 121 + (n / 10 % 10 + 1) * 11 + (n % 10 + 1)) := by
  unfold zfg zod
  repeat' split
  all_goals omega
theorem z3od {n : Nat} (hn : n < 10000) : f_X3_order (nI n) = some (nI (zod n)) := by
  have e0 : ztn 0 = 1 := rfl
  have e1 : ztn 1 = 10 := rfl
  have e2 : ztn 2 = 100 := rfl
  have e3 : ztn 3 = 1000 := rfl
  unfold f_X3_order
  rw [z3fg hn, zbd_s, zfu8, zl_0, zl_1, zO3s hn (zfg4 n) (by omega), zO3s hn (zfg4 n) (by omega), zO3s hn (zfg4 n) (by omega), zO3s hn (zfg4 n) (by omega), zO3e]
  apply congrArg some
  apply congrArg nI
  rcases zfg_c hn with q | q | q | q | q
  · rw [q.1, q.2.2]
    simp only [Nat.reduceLT, Nat.reduceAdd, ite_true]
  · rw [q.1, q.2.2.2]
    simp only [Nat.reduceLT, Nat.reduceAdd, Nat.lt_irrefl, ite_true, ite_false, Nat.reduceSub, e0]
    omega
  · rw [q.1, q.2.2.2]
    simp only [Nat.reduceLT, Nat.reduceAdd, Nat.lt_irrefl, ite_true, ite_false, Nat.reduceSub, e0, e1]
    omega
  · rw [q.1, q.2.2.2]
    simp only [Nat.reduceLT, Nat.reduceAdd, Nat.lt_irrefl, ite_true, ite_false, Nat.reduceSub, e0, e1, e2]
    omega
  · rw [q.1, q.2.2]
    simp only [Nat.reduceLT, Nat.reduceAdd, Nat.lt_irrefl, ite_true, ite_false, Nat.reduceSub, e0, e1, e2, e3]
    omega
theorem zs_O9 {n : Nat} {a b c d : Int32} : f_X9_order_9 (n + 1) a b c d = f_X9_order_9b (f_X9_order_9 n) a b c d := rfl
theorem zO9s {m n c k i : Nat} (hn : n < 10000) (hc : c < 5) (hi : i < 5) : f_X9_order_9 (m + 1) (nI n) (nI c) (nI k) (nI i) = f_X9_order_9 m (nI n) (nI c) (nI (11 * k + (if c ≤ i then 0 else n / ztn (c - 1 - i) % 10 + 1))) (nI (i + 1)) := by
  have q := ztn0 (c - 1 - i)
  have hd : n / ztn (c - 1 - i) < 2 ^ 31 := Nat.lt_of_le_of_lt (Nat.div_le_self _ _) (by omega)
  rw [zs_O9]
  unfold f_X9_order_9b f_X9_order_42
  rw [zl_5, if_neg (by rw [nI_leI (by omega) (by omega)]; omega), zl_0, zl_10, zl_1, zl_11, pk_mul, nI_add, nI_add]
  simp only [nI_leI (show c < 2 ^ 31 by omega) (show i < 2 ^ 31 by omega)]
  by_cases h : c ≤ i
  · rw [if_pos h, if_pos h]
  · rw [if_neg h, if_neg h, z9ten1 c hc i hi (by omega), zbd_s, zgd_n0 q.1 (by omega), pk_div (by omega) q.1 (by omega), zrm hd, nI_add, nI_add]
theorem zO9e {m : Nat} {a b c : Int32} : f_X9_order_9 (m + 1) a b c (nI 5) = some c := by
  rw [zs_O9]
  unfold f_X9_order_9b
  rw [zl_5, if_pos (by decide)]
theorem z9od {n : Nat} (hn : n < 10000) : f_X9_order (nI n) = some (nI (zod n * 11)) := by
  have e0 : ztn 0 = 1 := rfl
  have e1 : ztn 1 = 10 := rfl
  have e2 : ztn 2 = 100 := rfl
  have e3 : ztn 3 = 1000 := rfl
  unfold f_X9_order
  rw [z9fg hn, zbd_s, zfu8, zl_0, zO9s hn (zfg4 n) (by omega), zO9s hn (zfg4 n) (by omega), zO9s hn (zfg4 n) (by omega), zO9s hn (zfg4 n) (by omega), zO9s hn (zfg4 n) (by omega), zO9e]
  apply congrArg some
  apply congrArg nI
  rcases zfg_c hn with q | q | q | q | q
  · rw [q.1, q.2.2]
    simp only [Nat.reduceLeDiff, Nat.reduceAdd, ite_true]
  · rw [q.1, q.2.2.2]
    simp only [Nat.reduceLeDiff, Nat.reduceAdd, Nat.le_refl, ite_true, ite_false, Nat.reduceSub, e0]
    omega
  · rw [q.1, q.2.2.2]
    simp only [Nat.reduceLeDiff, Nat.reduceAdd, Nat.le_refl, ite_true, ite_false, Nat.reduceSub, e0, e1]
    omega
  · rw [q.1, q.2.2.2]
    simp only [Nat.reduceLeDiff, Nat.reduceAdd, Nat.le_refl, ite_true, ite_false, Nat.reduceSub, e0, e1, e2]
    omega
  · rw [q.1, q.2.2]
    simp only [Nat.reduceLeDiff, Nat.reduceAdd, Nat.le_refl, ite_true, ite_false, Nat.reduceSub, e0, e1, e2, e3]
    omega
theorem zod_i {a b : Nat} (ha : a < 10000) (hb : b < 10000) (h : zod a = zod b) : a = b := by
  rcases zfg_c ha with q | q | q | q | q <;> rcases zfg_c hb with w | w | w | w | w <;> omega
theorem zod_lt (a : Nat) (h : a < 10000) : zod a < 20000 := by
  unfold zod
  repeat' split
  all_goals omega

def zmv (n f t : Nat) : Int32 := if zfg t + (zfg n - zfg f) ≤ 4 then nI (t * ztn (zfg n - zfg f) + n % ztn (zfg n - zfg f)) else (-1)
theorem z3mv {n f t : Nat} (hn : n < 10000) (hf : f < 10000) (ht : t < 10000) (h : zfg f ≤ zfg n) : f_X3_moved (nI n) (nI f) (nI t) = some (zmv n f t) := by
  have q := ztn0 (zfg n - zfg f)
  have a1 := zfg4 n
  have a2 := zfg4 f
  have a3 := zfg4 t
  have e : ztn (zfg n - zfg f) = ztn (zfg n - zfg f) - 1 + 1 := by omega
  unfold f_X3_moved zmv
  rw [z3fg hn, zbd_s, z3fg hf, zbd_s, z3fg ht, zbd_s, zpwS _ a1 _ a2, zbd_s, pk_sub h, nI_add, zl_4, zl_1, zgd_n q.1 (by omega), pk_rem (by omega) q.1 (by omega), pk_mul, nI_add, if_pos (show nI 1 ≤ nI (ztn (zfg n - zfg f)) by rw [nI_leI (by omega) (by omega)]; omega)]
  simp only [nI_leI (show zfg n - zfg f + zfg t < 2 ^ 31 by omega) (show 4 < 2 ^ 31 by omega)]
  repeat' split
  all_goals first | rfl | (exfalso; omega)
theorem z9mv {n f t : Nat} (hn : n < 10000) (hf : f < 10000) (ht : t < 10000) (h : zfg f ≤ zfg n) : f_X9_joined (nI t) (nI n) (nI (zfg f)) = some (zmv n f t) := by
  have q := ztn0 (zfg n - zfg f)
  have a1 := zfg4 n
  have a2 := zfg4 f
  have a3 := zfg4 t
  unfold f_X9_joined zmv
  rw [z9fg hn, zbd_s, z9ten _ a1 _ a2, zbd_s, zgd_n q.1 (by omega), z9fg ht, zbd_s, zbd_s, pk_sub h, nI_add, zl_4, pk_rem (by omega) q.1 (by omega), pk_mul, nI_add]
  simp only [nI_leI (show zfg t + (zfg n - zfg f) < 2 ^ 31 by omega) (show 4 < 2 ^ 31 by omega)]
  split <;> rfl
theorem zmv_c {n f t : Nat} (ht : t < 10000) (h : zfg f ≤ zfg n) : zmv n f t = -1 ∨ ∃ m, m < 10000 ∧ zmv n f t = nI m := by
  have a1 := zfg4 n
  unfold zmv
  split
  · next c =>
    right
    refine ⟨_, ?_, rfl⟩
    have f1 : t < 10000 ∧ (zfg t = 0 ∧ t = 0 ∨ zfg t = 1 ∧ t < 10 ∨ zfg t = 2 ∧ t < 100 ∨ zfg t = 3 ∧ t < 1000 ∨ zfg t = 4) := by
      unfold zfg
      (repeat' split) <;> omega
    generalize zfg n - zfg f = d at *
    have hd : d = 0 ∨ d = 1 ∨ d = 2 ∨ d = 3 ∨ d = 4 := by omega
    rcases hd with w | w | w | w | w <;> subst w <;> unfold ztn <;> simp only [Nat.reduceEqDiff, if_true, if_false] <;> omega
  · left; rfl

theorem zun_fg {n p q : Nat} (hn : n < 10000) (hp : zun n p = true) (hq : zun n q = true) : zfg p < zfg q ↔ p < q := by
  unfold zun at hp hq
  have a := of_decide_eq_true hp
  have b := of_decide_eq_true hq
  have f : ∀ m, m < 10000 → (zfg m = 0 ∧ m = 0 ∨ zfg m = 1 ∧ 1 ≤ m ∧ m < 10 ∨ zfg m = 2 ∧ 10 ≤ m ∧ m < 100 ∨ zfg m = 3 ∧ 100 ≤ m ∧ m < 1000 ∨ zfg m = 4 ∧ 1000 ≤ m) := by
    intro m hm
    unfold zfg
    (repeat' split) <;> omega
  have fp := f p (by omega)
  have fq := f q (by omega)
  omega
theorem zun_le {n p : Nat} (h : zun n p = true) : p ≤ n := by
  unfold zun at h
  have := of_decide_eq_true h
  omega
theorem zun_fl {n p : Nat} (hn : n < 10000) (h : zun n p = true) : zfg p ≤ zfg n := by
  have := zun_le h
  unfold zfg
  repeat' split
  all_goals omega
theorem zun_two {n p q : Nat} (hp : zun n p = true) (hq : zun n q = true) (hn : n < 10000) (h : p ≤ q) : zun q p = true := by
  unfold zun at *
  have a := of_decide_eq_true hp
  have b := of_decide_eq_true hq
  apply decide_eq_true
  omega
