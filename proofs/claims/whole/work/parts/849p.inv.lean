/-! one relation of both states, and how a call is held against the reference -/
def zTG (T : zT) : Prop := ∀ i, i < T.1 → zpl (tP T i) = true ∧ tS T i < 5 ∧ (tK T i = 2 → tV T i < 10000 ∧ tL T i ≤ 50 ∧ ((tS T i = 1 ∨ tS T i = 2) → znm (tV T i) = true))
def zTo (σ τ : zt_St) : Prop := (σ 92 0 = -1 ∧ ∀ j, j < 5 → τ 121 j = -1) ∨ (¬ σ 92 0 = -1 ∧ zTl σ τ 92)
def zTT (σ τ : zt_St) (T : zT) : Prop := zTC σ T ∧ zTM τ T ∧ zTB T ∧ zTG T
def zINV (kk : Nat) (σ τ : zt_St) : Prop := kk ≤ 600 ∧ ∃ Z RS T now c t, zJ1 σ τ Z RS now ∧ zIK σ τ c now t ∧ σ 90 = τ 113 ∧ zTT σ τ T ∧ zTo σ τ ∧ now ≤ 100 * kk ∧ t ≤ 12 * kk
theorem zTo_f {σ τ σ' τ' : zt_St} (h : zTo σ τ) (h1 : σ' 92 = σ 92) (h2 : τ' 121 = τ 121) : zTo σ' τ' := by
  unfold zTo zTl at h ⊢
  rw [h1, h2]
  exact h
theorem zTT_f {σ τ σ' τ' : zt_St} {T : zT} (h : zTT σ τ T) (h1 : ∀ a, 69 ≤ a → a ≤ 74 → σ' a = σ a) (h2 : ∀ a, 108 ≤ a → a ≤ 112 → τ' a = τ a) (h3 : τ' 94 17 = τ 94 17) : zTT σ' τ' T := by
  obtain ⟨a, ⟨b1, b2⟩, c⟩ := h
  refine ⟨zTC_f a h1, ⟨h3.trans b1, ?_⟩, c⟩
  rw [h2 108 (by decide) (by decide), h2 109 (by decide) (by decide), h2 110 (by decide) (by decide), h2 111 (by decide) (by decide), h2 112 (by decide) (by decide)]
  exact b2
theorem zINV_f {kk : Nat} {σ τ σ' τ' : zt_St} (h : zINV kk σ τ) (h1 : ∀ a, a < 75 ∨ 81 ≤ a ∧ a ≤ 90 ∨ a = 92 → σ' a = σ a) (h2 : σ' 80 3 = σ 80 3) (h3 : σ' 80 4 = σ 80 4) (h4 : ∀ a, 95 ≤ a → a ≤ 121 → τ' a = τ a) (h5 : ∀ j, j = 1 ∨ j = 2 ∨ j = 11 ∨ j = 17 ∨ j = 24 → τ' 94 j = τ 94 j) : zINV kk σ' τ' := by
  obtain ⟨hk, Z, RS, T, now, c, t, ⟨a1, a2, a3, a4, a5⟩, b, d, e, f, g⟩ := h
  exact ⟨hk, Z, RS, T, now, c, t, ⟨zIW_f a1 (fun a q => h1 a (by omega)) (fun a q r => h4 a (by omega) (by omega)) (h5 2 (by omega)), h2.trans a2, (h5 1 (by omega)).trans a3, (h3.trans a4).trans (h5 11 (by omega)).symm, a5⟩, zIK_f b (fun a q r => h1 a (by omega)) (fun a q r => h4 a (by omega) (by omega)) (h5 24 (by omega)), by rw [h1 90 (by omega), h4 113 (by omega) (by omega)]; exact d, zTT_f e (fun a q r => h1 a (by omega)) (fun a q r => h4 a (by omega) (by omega)) (h5 17 (by omega)), zTo_f f (h1 92 (by omega)) (h4 121 (by omega) (by omega)), g⟩
theorem zINV_m {kk : Nat} {σ τ : zt_St} (h : zINV kk σ τ) (hk : kk < 600) : zINV (kk + 1) σ τ := by
  obtain ⟨_, Z, RS, T, now, c, t, a, b, d, e, f, g, i⟩ := h
  exact ⟨hk, Z, RS, T, now, c, t, a, b, d, e, f, by omega, by omega⟩
/-- what was refused changes nothing -/
theorem zINV_th {kk : Nat} {σ τ : zt_St} {x : Int32} (h : zINV kk σ τ) (hk : kk < 600) : zINV (kk + 1) σ (zt_st τ 94 0 x) :=
  zINV_f (zINV_m h hk) (fun _ _ => rfl) rfl rfl (fun a q r => zst_o (by omega)) (fun j q => zst_j (by omega))
def zSim (kk : Nat) (fc : zt_St → Option (Int32 × Int32 × zt_St)) (f9 : zt_St → Option (Int32 × zt_St)) (g : Int32 → zt_St → Option (Int32 × zt_St)) : Prop := ∀ σ τ, zINV kk σ τ → ∃ e v σ' w τ', fc σ = some (e, v, σ') ∧ f9 τ = some (w, τ') ∧ ((e = 0 ∧ τ' 94 0 = 0 ∧ v = w) ∨ (¬ e = 0 ∧ (∀ s, g e s = some (τ' 94 0, s)) ∧ ¬ τ' 94 0 = 0)) ∧ zINV (kk + 1) σ' τ' ∧ (∀ a, 94 ≤ a → σ' a = σ a) ∧ (∀ a, a < 94 ∨ a = 122 → τ' a = τ a)
theorem zbl_0 {v : Int32} {σ : zt_St} {f g : Int32 → zt_St → Option (Int32 × zt_St)} : zt_bl (some (0, v, σ)) f g = f v σ := rfl
theorem zbl_e {e v : Int32} {σ : zt_St} {f g : Int32 → zt_St → Option (Int32 × zt_St)} (h : ¬ e = 0) : zt_bl (some (e, v, σ)) f g = g e σ := if_neg h
theorem zbx_0 {v : Int32} {σ : zt_St} {f : Int32 → zt_St → Option (Int32 × Int32 × zt_St)} : zt_bx (some (0, v, σ)) f = f v σ := rfl
theorem zbx_e {e v : Int32} {σ : zt_St} {f : Int32 → zt_St → Option (Int32 × Int32 × zt_St)} (h : ¬ e = 0) : zt_bx (some (e, v, σ)) f = some (e, 0, σ) := if_neg h
theorem zGen {kk : Nat} {fc : zt_St → Option (Int32 × Int32 × zt_St)} {f9 : zt_St → Option (Int32 × zt_St)} {g f : Int32 → zt_St → Option (Int32 × zt_St)} {σ : zt_St} (H : zSim kk fc f9 g) (hI : zINV kk σ σ) (out : Bool) (hf : ∀ v σ', fc σ = some (0, v, σ') → f v σ' = some (0, if out = true then zt_st σ' 122 0 v else σ')) : ∃ e σ1 w σ2, zt_bl (fc σ) f g = some (e, σ1) ∧ f9 σ1 = some (w, σ2) ∧ σ2 94 0 = e ∧ (e = 0 → out = true → σ2 122 0 = w) ∧ zINV (kk + 1) σ2 σ2 ∧ (e = 0 → ∃ s, fc σ = some (0, w, s)) := by
  obtain ⟨e, v, σ', w0, τ0, c1, c2, c3, c4, c5, c6⟩ := H σ σ hI
  have key : ∀ σ1 : zt_St, (∀ a, a < 122 → σ1 a = σ' a) → ∃ w τ', f9 σ1 = some (w, τ') ∧ ((e = 0 ∧ τ' 94 0 = 0 ∧ v = w) ∨ (¬ e = 0 ∧ (∀ s, g e s = some (τ' 94 0, s)) ∧ ¬ τ' 94 0 = 0)) ∧ τ' 122 = σ1 122 ∧ zINV (kk + 1) τ' τ' := fun σ1 h1 => by
    have hI1 : zINV kk σ σ1 := zINV_f hI (fun _ _ => rfl) rfl rfl (fun a q r => (h1 a (by omega)).trans (c5 a (by omega))) (fun j _ => by rw [h1 94 (by decide), c5 94 (by decide)])
    obtain ⟨e', v', σ'', w, τ', d1, d2, d3, d4, d5, d6⟩ := H σ σ1 hI1
    rw [c1] at d1
    have z := Option.some.inj d1
    have z1 := (Prod.mk.inj z).1
    have z2 := (Prod.mk.inj (Prod.mk.inj z).2).1
    have z3 := (Prod.mk.inj (Prod.mk.inj z).2).2
    subst z1 z2 z3
    refine ⟨w, τ', d2, d3, d6 122 (Or.inr rfl), zINV_f d4 (fun a q => ?_) ?_ ?_ (fun _ _ _ => rfl) (fun _ _ => rfl)⟩
    · rw [d6 a (by omega), h1 a (by omega)]
    · rw [d6 80 (by omega), h1 80 (by omega)]
    · rw [d6 80 (by omega), h1 80 (by omega)]
  by_cases he : e = 0
  · subst he
    rw [c1, zbl_0, hf v σ' c1]
    cases out with
    | true =>
      obtain ⟨w, τ', k1, k2, k3, k4⟩ := key (zt_st σ' 122 0 v) (fun a h => zst_o (by omega))
      rcases k2 with ⟨_, p1, p2⟩ | ⟨p, _⟩
      · exact ⟨0, _, w, τ', rfl, k1, p1, fun _ _ => by rw [k3]; exact zst_s.trans p2, k4, fun _ => ⟨σ', by rw [p2]⟩⟩
      · exact absurd rfl p
    | false =>
      obtain ⟨w, τ', k1, k2, k3, k4⟩ := key σ' (fun a h => rfl)
      rcases k2 with ⟨_, p1, p2⟩ | ⟨p, _⟩
      · exact ⟨0, _, w, τ', rfl, k1, p1, fun _ q => (nomatch q), k4, fun _ => ⟨σ', by rw [p2]⟩⟩
      · exact absurd rfl p
  · rw [c1, zbl_e he]
    obtain ⟨w, τ', k1, k2, k3, k4⟩ := key σ' (fun a h => rfl)
    rcases k2 with ⟨p, _⟩ | ⟨_, p1, p2⟩
    · exact absurd p he
    · exact ⟨τ' 94 0, σ', w, τ', p1 σ', k1, rfl, fun q => absurd q p2, k4, fun q => absurd q p2⟩
/-! the arguments, as both take them -/
theorem zX (x : Int32) : x < 0 ∨ ∃ n, n < 2 ^ 31 ∧ x = nI n := by
  by_cases h : x < 0
  · exact Or.inl h
  · exact Or.inr (nI_of h)
theorem z9inb {x l h : Int32} : f_X9_in x l h = some (zb (!(decide (x < l)) && !(decide (h < x)))) := by
  unfold f_X9_in
  by_cases c1 : x < l
  · rw [if_pos c1, decide_eq_true c1]; rfl
  · rw [if_neg c1, decide_eq_false c1]
    by_cases c2 : h < x
    · rw [if_pos c2, decide_eq_true c2]; rfl
    · rw [if_neg c2, decide_eq_false c2]; rfl
theorem zArN (x : Int32) : ∃ b, f_X3_isName x = some (zb b) ∧ f_X9_isName x = some (zb b) ∧ (b = true → ∃ n, x = nI n ∧ znm n = true) := by
  rcases zX x with h | ⟨n, hn, e⟩
  · exact ⟨false, z3nmN h, z9nmN h, fun q => (nomatch q)⟩
  · rw [e]
    exact ⟨znm n, z3nm hn, z9nm hn, fun q => ⟨n, rfl, q⟩⟩
theorem zArP (x : Int32) : ∃ b, f_X3_isPlace x = some (zb b) ∧ f_X9_isPlace x = some (zb b) ∧ (b = true → ∃ n, x = nI n ∧ zpl n = true) := by
  rcases zX x with h | ⟨n, hn, e⟩
  · exact ⟨false, z3plN h, z9plN h, fun q => (nomatch q)⟩
  · rw [e]
    exact ⟨zpl n, z3pl hn, z9pl hn, fun q => ⟨n, rfl, q⟩⟩
theorem zAr {x : Int32} {m : Nat} (hm : m < 2 ^ 31) (h : (!(decide (x < 0)) && !(decide (nI m < x))) = true) : ∃ s, s ≤ m ∧ x = nI s := by
  rcases zX x with q | ⟨n, hn, e⟩
  · rw [decide_eq_true q] at h; cases h
  · rw [e] at h
    simp only [Bool.and_eq_true, Bool.not_eq_true', decide_eq_false_iff_not] at h
    refine ⟨n, ?_, e⟩
    by_cases c : n ≤ m
    · exact c
    · exact absurd (nI_lt (by omega) hn) h.2
theorem zArS (x : Int32) : ∃ b, f_X8_isSort x = some (zb b) ∧ f_X9_in x 0 4 = some (zb b) ∧ (b = true → ∃ s, s < 5 ∧ x = nI s) := by
  refine ⟨!(decide (x < 0)) && !(decide (4 < x)), ?_, z9inb, fun h => ?_⟩
  · exact z9inb (x := x) (l := 0) (h := 4)
  · obtain ⟨s, hs, e⟩ := zAr (m := 4) (by decide) h
    exact ⟨s, by omega, e⟩
theorem zArL (x : Int32) : ∃ b, f_X8_isLife x = some (zb b) ∧ f_X9_in x 1 50 = some (zb b) ∧ (b = true → ∃ s, s ≤ 50 ∧ x = nI s) := by
  refine ⟨!(decide (x < 1)) && !(decide (50 < x)), ?_, z9inb, fun h => ?_⟩
  · exact z9inb (x := x) (l := 1) (h := 50)
  · refine zAr (m := 50) (by decide) ?_
    simp only [Bool.and_eq_true, Bool.not_eq_true', decide_eq_false_iff_not] at h ⊢
    refine ⟨fun q => h.1 ?_, h.2⟩
    rw [Int32.lt_iff_toInt_lt] at q ⊢
    have e0 : (0 : Int32).toInt = 0 := rfl
    have e1 : (1 : Int32).toInt = 1 := rfl
    omega
def zce {α : Type} (b : Bool) (x y : α) : α := if b = true then x else y
theorem zArZ {σ τ : zt_St} {Z : Nat × (Nat → Nat)} (h1 : zZC σ Z) (h2 : zZM τ Z) (hB : zZB Z) (x : Int32) : ∃ b, f_X8_checkZone σ x = some (if b = true then 0 else 3, 0, σ) ∧ f_X9_isZone τ x = some (zb b) ∧ (b = true → ∃ z, z < Z.1 ∧ x = nI z) := by
  have h6 := hB.1
  have h7 := hB.2.1
  unfold f_X8_checkZone f_X8_checkZone_15 f_X9_isZone
  rw [h2.1, h1.1, show nI Z.1 - (1 : Int32) = nI (Z.1 - 1) from pk_sub h7, z9inb, zbd_s, zbg, zgd_t]
  rcases zX x with q | ⟨n, hn, e⟩
  · refine ⟨false, ?_, ?_, fun z => (nomatch z)⟩
    · rw [if_pos q]; rfl
    · rw [decide_eq_true q]; rfl
  · rw [e, if_neg (nI_pos hn), decide_eq_false (nI_pos hn)]
    by_cases c : n < Z.1
    · refine ⟨true, ?_, ?_, fun _ => ⟨n, c, rfl⟩⟩
      · rw [if_pos (nI_lt c (by omega))]; rfl
      · rw [decide_eq_false (nI_nlt (by omega) (by omega))]; rfl
    · refine ⟨false, ?_, ?_, fun z => (nomatch z)⟩
      · rw [if_neg (nI_nlt (by omega) (by omega))]; rfl
      · rw [decide_eq_true (nI_lt (by omega) (by omega))]; rfl
theorem zArK (x : Int32) : ∃ b, f_X8_isKeyOrNone x = some (zb b) ∧ f_X9_in x (-1) 99 = some (zb b) := by
  refine ⟨!(decide (x < -1)) && !(decide (99 < x)), ?_, z9inb⟩
  unfold f_X8_isKeyOrNone f_X8_isKeyOrNone_15
  rcases zX x with q | ⟨n, hn, e⟩
  · have c9 : ¬ 99 < x := fun h => by
      rw [Int32.lt_iff_toInt_lt] at h q
      have e0 : (0 : Int32).toInt = 0 := rfl
      have e1 : (99 : Int32).toInt = 99 := rfl
      omega
    rw [decide_eq_false c9]
    by_cases c1 : x = -1
    · rw [if_pos c1, c1]; rfl
    · have c2 : x < -1 := by
        have c3 : ¬ x.toInt = -1 := fun h => c1 (Int32.toInt_inj.mp (h.trans rfl))
        rw [Int32.lt_iff_toInt_lt] at q ⊢
        have e0 : (0 : Int32).toInt = 0 := rfl
        have e1 : (-1 : Int32).toInt = -1 := rfl
        omega
      rw [if_neg c1, if_pos q, decide_eq_true c2]; rfl
  · have c2 : ¬ nI n < -1 := fun h => by
      rw [Int32.lt_iff_toInt_lt, nI_toInt hn] at h
      have e1 : (-1 : Int32).toInt = -1 := rfl
      omega
    rw [e, if_neg (zm1 hn), if_neg (nI_pos hn), decide_eq_false c2, zl_100, zl_99]
    by_cases c : n < 100
    · rw [if_neg (nI_ge c (by omega)), decide_eq_false (nI_nlt (by omega) (by omega))]; rfl
    · rw [if_pos (nI_le (by omega) hn), decide_eq_true (nI_lt (by omega) hn)]; rfl
theorem z9as1 {τ : zt_St} {b : Bool} : f_X9_asked τ (zb b) = some (zb b, zt_st τ 94 0 (if b = true then 0 else 1)) := by
  unfold f_X9_asked f_X9_asked_10
  cases b <;> rfl
theorem z9as2 {τ : zt_St} {a b : Bool} : f_X9_asked_ τ (zb a) (zb b) = some (zb (a && b), zt_st τ 94 0 (if a = true then (if b = true then 0 else 2) else 1)) := by
  unfold f_X9_asked_ f_X9_asked__18
  cases a <;> cases b <;> simp only [zlt_e, zst_s] <;> rfl
theorem z9as3 {τ : zt_St} {a b c : Bool} : f_X9_asked__ τ (zb a) (zb b) (zb c) = some (zb (a && (b && c)), zt_st τ 94 0 (if a = true then (if b = true then (if c = true then 0 else 3) else 2) else 1)) := by
  unfold f_X9_asked__ f_X9_asked___26
  cases a <;> cases b <;> cases c <;> simp only [zlt_e, zst_s] <;> rfl
