/-! what is told for an update; a new zone, in both -/
def zTp (T : zT) (a b c d e : Nat) : zT := (T.1 + 1, fun i => if i = T.1 then (a, b, c, d, e) else T.2 i)
theorem zTp_o {T : zT} {a b c d e i : Nat} (h : i ≠ T.1) : (zTp T a b c d e).2 i = T.2 i := if_neg h
theorem zTp_s {T : zT} {a b c d e : Nat} : (zTp T a b c d e).2 T.1 = (a, b, c, d, e) := if_pos rfl
theorem zTT_p {σ τ σ' τ' : zt_St} {T : zT} {a b c d e : Nat} (h : zTT σ τ T) (h10 : T.1 < 10) (ha : a ≤ 3) (hb : zpl b = true) (hc : c < 5) (hd : a = 2 → d < 10000 ∧ e ≤ 50 ∧ ((c = 1 ∨ c = 2) → znm d = true))
    (s5 : σ' 69 5 = nI (T.1 + 1)) (s0 : ∀ j, σ' 70 j = if j = T.1 then nI a else σ 70 j) (s1 : ∀ j, σ' 71 j = if j = T.1 then nI b else σ 71 j) (s2 : ∀ j, σ' 72 j = if j = T.1 then nI c else σ 72 j) (s3 : ∀ j, σ' 73 j = if j = T.1 then nI d else σ 73 j) (s4 : ∀ j, σ' 74 j = if j = T.1 then nI e else σ 74 j)
    (m5 : τ' 94 17 = nI (T.1 + 1)) (m0 : ∀ j, τ' 108 j = if j = T.1 then nI a else τ 108 j) (m1 : ∀ j, τ' 109 j = if j = T.1 then nI b else τ 109 j) (m2 : ∀ j, τ' 110 j = if j = T.1 then nI c else τ 110 j) (m3 : ∀ j, τ' 111 j = if j = T.1 then nI d else τ 111 j) (m4 : ∀ j, τ' 112 j = if j = T.1 then nI e else τ 112 j) : zTT σ' τ' (zTp T a b c d e) := by
  obtain ⟨⟨c1, c2⟩, ⟨d1, d2⟩, ⟨e1, e2⟩, f⟩ := h
  refine ⟨⟨s5, fun i hi => ?_⟩, ⟨m5, fun i hi => ?_⟩, ⟨h10, fun i hi => ?_⟩, fun i hi => ?_⟩
  · have hi' : i < T.1 + 1 := hi
    rw [s0, s1, s2, s3, s4]
    unfold tK tP tS tV tL
    by_cases q : i = T.1
    · rw [if_pos q, if_pos q, if_pos q, if_pos q, if_pos q, q, zTp_s]
      exact ⟨rfl, rfl, rfl, rfl, rfl⟩
    · rw [if_neg q, if_neg q, if_neg q, if_neg q, if_neg q, zTp_o q]
      exact c2 i (by omega)
  · have hi' : i < T.1 + 1 := hi
    rw [m0, m1, m2, m3, m4]
    unfold tK tP tS tV tL
    by_cases q : i = T.1
    · rw [if_pos q, if_pos q, if_pos q, if_pos q, if_pos q, q, zTp_s]
      exact ⟨rfl, rfl, rfl, rfl, rfl⟩
    · rw [if_neg q, if_neg q, if_neg q, if_neg q, if_neg q, zTp_o q]
      exact d2 i (by omega)
  · have hi' : i < T.1 + 1 := hi
    unfold tK
    by_cases q : i = T.1
    · rw [q, zTp_s]; exact ha
    · rw [zTp_o q]; exact e2 i (by omega)
  · have hi' : i < T.1 + 1 := hi
    unfold tK tP tS tV tL
    by_cases q : i = T.1
    · rw [q, zTp_s]; exact ⟨hb, hc, hd⟩
    · rw [zTp_o q]; exact f i (by omega)
def zcT (σ : zt_St) (n : Nat) (a b c d e : Int32) : zt_St := zt_st (zt_st (zt_st (zt_st (zt_st (zt_st σ 70 n a) 71 n b) 72 n c) 73 n d) 74 n e) 69 5 (nI (n + 1))
theorem z3tell {σ : zt_St} {n : Nat} {a b c d e : Int32} (h : σ 69 5 = nI n) (hn : n < 10) : f_X1_tell σ a b c d e = some (nI (n + 1), zcT σ n a b c d e) := by
  have g : ∀ s : zt_St, (zt_st s 69 5 (nI (n + 1))) 69 5 = nI (n + 1) := fun s => zst_s
  unfold f_X1_tell
  rw [h, if_neg (nI_pos (by omega)), zl_10, if_neg (nI_ge hn (by omega))]
  simp only [zlt_e, zst_o (show 69 ≠ 70 by decide), zst_o (show 69 ≠ 71 by decide), zst_o (show 69 ≠ 72 by decide), zst_o (show 69 ≠ 73 by decide), zst_o (show 69 ≠ 74 by decide), h, zgd_i (show n < 10 by omega) (show 10 < 2 ^ 31 by decide), nI_clamp (show n < 2 ^ 31 by omega), nI_1, g]
  rfl
def zcU (τ : zt_St) (n : Nat) (a b c d e : Int32) : zt_St := zt_st (zt_st (zt_st (zt_st (zt_st (zt_st τ 108 n a) 109 n b) 110 n c) 111 n d) 112 n e) 94 17 (nI (n + 1))
theorem z9teY {τ : zt_St} {n : Nat} {u2 u3 u4 u5 u6 : Int32} (h : τ 94 17 = nI n) (c1 : n < 10) : f_X9_tells_27 τ (zb true) u2 u3 u4 u5 u6 = some (nI (n + 1), zcU (zt_st τ 94 0 0) n u2 u3 u4 u5 u6) := by
  have g : ∀ s : zt_St, (zt_st s 94 17 (nI (n + 1))) 94 17 = nI (n + 1) := fun s => zst_s
  have h' : zt_st τ 94 0 0 94 17 = nI n := (zst_j (by decide)).trans h
  unfold f_X9_tells_27 f_X9_tells_41
  rw [h, zl_10, if_neg (nI_ge c1 (by omega)), show f_X9_asked_ τ (zb true) 1 = some (zb true, zt_st τ 94 0 0) from z9as2 (a := true) (b := true), zbd_s]
  simp only [zlt_e]
  rw [if_neg (show ¬ zb true = 0 by decide)]
  simp only [zst_o (show 94 ≠ 108 by decide), zst_o (show 94 ≠ 109 by decide), zst_o (show 94 ≠ 110 by decide), zst_o (show 94 ≠ 111 by decide), zst_o (show 94 ≠ 112 by decide), h', zgd_i (show n < 10 by omega) (show 10 < 2 ^ 31 by decide), nI_clamp (show n < 2 ^ 31 by omega), nI_1, g]
  rfl
theorem z9teN {τ : zt_St} {n : Nat} {u2 u3 u4 u5 u6 : Int32} {y : Bool} (h : τ 94 17 = nI n) (hn : n ≤ 10) (hy : ¬ (y = true ∧ n < 10)) : f_X9_tells_27 τ (zb y) u2 u3 u4 u5 u6 = some (0, zt_st τ 94 0 (if y = true then 2 else 1)) := by
  unfold f_X9_tells_27 f_X9_tells_41
  rw [h, zl_10]
  by_cases c1 : n < 10
  · have ey : y = false := by
      cases y with
      | false => rfl
      | true => exact absurd ⟨rfl, c1⟩ hy
    subst ey
    rw [if_neg (nI_ge c1 (by omega)), show f_X9_asked_ τ (zb false) 1 = some (zb false, zt_st τ 94 0 1) from z9as2 (a := false) (b := true)]
    rfl
  · rw [if_pos (nI_le (by omega) (by omega)), show f_X9_asked_ τ (zb y) 0 = some (zb (y && false), zt_st τ 94 0 (if y = true then (if false = true then 0 else 2) else 1)) from z9as2 (a := y) (b := false)]
    cases y <;> rfl
theorem z9te0 {τ : zt_St} {x y : Int32} {u2 u5 u6 : Int32} {r p s : Bool} (h1 : f_X9_isPlace x = some (zb p)) (h2 : f_X9_in y 0 4 = some (zb s)) : f_X9_tells τ (zb r) u2 x y u5 u6 = f_X9_tells_27 τ (zb (r && (p && s))) u2 x y u5 u6 := by
  unfold f_X9_tells f_X9_tells_26
  rw [h1, h2]
  cases r <;> cases p <;> cases s <;> rfl
/-- one more is told, in both -/
theorem zTell {kk : Nat} (hk : kk < 600) {σ τ : zt_St} (hI : zINV kk σ τ) {n a : Nat} {T : zT} {x y v l : Int32} {b c d e : Nat} (hT : zTT σ τ T) (hn : T.1 = n) (h10 : n < 10) (ha : a ≤ 3) (hb : zpl b = true) (hc : c < 5) (hd : a = 2 → d < 10000 ∧ e ≤ 50 ∧ ((c = 1 ∨ c = 2) → znm d = true)) (ex : x = nI b) (ey : y = nI c) (ev : v = nI d) (el : l = nI e) : zINV (kk + 1) (zcT σ n (nI a) x y v l) (zcU (zt_st τ 94 0 0) n (nI a) x y v l) := by
  subst ex ey ev el hn
  obtain ⟨hk6, Z, RS, T2, now, cc, t, ⟨a1, a2, a3, a4, a5⟩, hK, hu, _, hTo, hnow, ht⟩ := hI
  have so : ∀ z, z < 69 ∨ 74 < z → zcT σ T.1 (nI a) (nI b) (nI c) (nI d) (nI e) z = σ z := fun z h => by
    unfold zcT
    rw [zst_o (by omega), zst_o (by omega), zst_o (by omega), zst_o (by omega), zst_o (by omega), zst_o (by omega)]
  have mo : ∀ z, z < 94 ∨ 94 < z ∧ z < 108 ∨ 112 < z → zcU (zt_st τ 94 0 0) T.1 (nI a) (nI b) (nI c) (nI d) (nI e) z = τ z := fun z h => by
    unfold zcU
    rw [zst_o (by omega), zst_o (by omega), zst_o (by omega), zst_o (by omega), zst_o (by omega), zst_o (by omega), zst_o (by omega)]
  have mj : ∀ j, j ≠ 0 → j ≠ 17 → zcU (zt_st τ 94 0 0) T.1 (nI a) (nI b) (nI c) (nI d) (nI e) 94 j = τ 94 j := fun j h1 h2 => by
    unfold zcU
    rw [zst_j h2, zst_o (by omega), zst_o (by omega), zst_o (by omega), zst_o (by omega), zst_o (by omega), zst_j h1]
  refine ⟨hk, Z, RS, zTp T a b c d e, now, cc, t, ⟨zIW_f a1 (fun z h => so z (by omega)) (fun z _ _ => mo z (by omega)) (mj 2 (by decide) (by decide)), by rw [so 80 (by omega)]; exact a2, (mj 1 (by decide) (by decide)).trans a3, by rw [so 80 (by omega), mj 11 (by decide) (by decide)]; exact a4, a5⟩, zIK_f hK (fun z _ _ => so z (by omega)) (fun z _ _ => mo z (by omega)) (mj 24 (by decide) (by decide)), by rw [so 90 (by omega), mo 113 (by omega)]; exact hu, zTT_p hT h10 ha hb hc hd ?_ ?_ ?_ ?_ ?_ ?_ ?_ ?_ ?_ ?_ ?_ ?_, zTo_f hTo (so 92 (by omega)) (mo 121 (by omega)), by omega, by omega⟩ <;> (first | unfold zcT | unfold zcU)
  · exact zst_s
  · intro j; rw [zst_o (by decide), zst_o (by decide), zst_o (by decide), zst_o (by decide), zst_o (by decide)]; exact zst_if
  · intro j; rw [zst_o (by decide), zst_o (by decide), zst_o (by decide), zst_o (by decide)]; exact zst_if.trans (by rw [zst_o (by decide)])
  · intro j; rw [zst_o (by decide), zst_o (by decide), zst_o (by decide)]; exact zst_if.trans (by rw [zst_o (by decide), zst_o (by decide)])
  · intro j; rw [zst_o (by decide), zst_o (by decide)]; exact zst_if.trans (by rw [zst_o (by decide), zst_o (by decide), zst_o (by decide)])
  · intro j; rw [zst_o (by decide)]; exact zst_if.trans (by rw [zst_o (by decide), zst_o (by decide), zst_o (by decide), zst_o (by decide)])
  · exact zst_s
  · intro j; rw [zst_o (by decide), zst_o (by decide), zst_o (by decide), zst_o (by decide), zst_o (by decide)]; exact zst_if.trans (by rw [zst_o (by decide)])
  · intro j; rw [zst_o (by decide), zst_o (by decide), zst_o (by decide), zst_o (by decide)]; exact zst_if.trans (by rw [zst_o (by decide), zst_o (by decide)])
  · intro j; rw [zst_o (by decide), zst_o (by decide), zst_o (by decide)]; exact zst_if.trans (by rw [zst_o (by decide), zst_o (by decide), zst_o (by decide)])
  · intro j; rw [zst_o (by decide), zst_o (by decide)]; exact zst_if.trans (by rw [zst_o (by decide), zst_o (by decide), zst_o (by decide), zst_o (by decide)])
  · intro j; rw [zst_o (by decide)]; exact zst_if.trans (by rw [zst_o (by decide), zst_o (by decide), zst_o (by decide), zst_o (by decide), zst_o (by decide)])
theorem zcT_o {σ : zt_St} {n z : Nat} {a b c d e : Int32} (h : z < 69 ∨ 74 < z) : zcT σ n a b c d e z = σ z := by
  unfold zcT
  rw [zst_o (by omega), zst_o (by omega), zst_o (by omega), zst_o (by omega), zst_o (by omega), zst_o (by omega)]
theorem zcU_o {τ : zt_St} {n z : Nat} {a b c d e : Int32} (h : z < 94 ∨ 94 < z ∧ z < 108 ∨ 112 < z) : zcU τ n a b c d e z = τ z := by
  unfold zcU
  rw [zst_o (by omega), zst_o (by omega), zst_o (by omega), zst_o (by omega), zst_o (by omega), zst_o (by omega)]
theorem zcU_j {τ : zt_St} {n j : Nat} {a b c d e : Int32} (h : j ≠ 17) : zcU τ n a b c d e 94 j = τ 94 j := by
  unfold zcU
  rw [zst_j h, zst_o (by omega), zst_o (by omega), zst_o (by omega), zst_o (by omega), zst_o (by omega)]
/-- a condition or a drop is told, in both -/
theorem zTel1 {kk : Nat} (hk : kk < 600) {σ τ : zt_St} (hI : zINV kk σ τ) {a : Nat} (x1 x2 : Int32) (ha : a = 0 ∨ a = 1 ∨ a = 3) : zSimC kk (zt_bx (f_X8_checkPlaceAndSort σ x1 x2) fun v1 σ2 => zt_bx (f_X8_checkRoomToTell σ2) fun v3 σ4 => zt_bd (f_X1_tell σ4 (nI a) x1 x2 0 0) fun q8 => zt_lt q8.1 fun v6 => zt_lt q8.2 fun σ7 => some (0, v6, σ7)) (zt_bd (f_X9_tells τ 1 (nI a) x1 x2 0 0) fun q4 => zt_lt q4.1 fun v2 => zt_lt q4.2 fun σ3 => some (v2, σ3)) zg12 σ τ := by
  obtain ⟨hk6, Z, RS, T, now, cc, t, hJ, hK, hu, hT, hTo, hnow, ht⟩ := id hI
  obtain ⟨p, p1, p2, p3⟩ := zArP x1
  obtain ⟨s, s1, s2, s3⟩ := zArS x2
  have h10 := hT.2.2.1.1
  have h5 := hT.1.1
  have e9 : f_X9_tells τ 1 (nI a) x1 x2 0 0 = f_X9_tells_27 τ (zb (true && (p && s))) (nI a) x1 x2 0 0 := z9te0 (r := true) p2 s2
  rw [zCps p1 s1, e9, Bool.true_and]
  by_cases c1 : (p && s) = true
  · have c1' := c1
    rw [Bool.and_eq_true] at c1
    obtain ⟨n, en, hn⟩ := p3 c1.1
    obtain ⟨m, hm, em⟩ := s3 c1.2
    rw [c1', if_pos rfl, zbx_0]
    unfold f_X8_checkRoomToTell
    rw [h5, zl_10]
    by_cases c2 : T.1 < 10
    · rw [if_pos (nI_lt c2 (by omega)), zbx_0, z3tell h5 c2, z9teY hT.2.1.1 c2, zbd_s, zbd_s]
      simp only [zlt_e]
      exact zSuc rfl rfl ((zcU_j (by decide)).trans zst_s) (zTell hk hI (b := n) (c := m) (d := 0) (e := 0) hT rfl c2 (by omega) hn hm (fun q => by omega) en em rfl rfl) (fun z h => zcT_o (by omega)) (fun z h => (zcU_o (by omega)).trans (zst_o (by omega)))
    · rw [if_neg (nI_nlt (by omega) (by omega)), zbx_e zn2, z9teN hT.2.1.1 h10 (fun w => c2 w.2)]
      exact zRef hI hk rfl rfl zn2 zn2 (fun _ => rfl)
  · rw [Bool.eq_false_iff.mpr c1, if_neg (show ¬ false = true by decide), zbx_e zn1, z9teN (y := false) hT.2.1.1 h10 (fun w => (nomatch w.1))]
    exact zRef hI hk rfl rfl zn1 zn1 (fun _ => rfl)
theorem zc_need {kk : Nat} (hk : kk < 600) (x1 x2 : Int32) (d : Bool) : zSim kk (fun σ => f_X8_need σ x1 x2 (zb d)) (fun τ => f_X9_need τ x1 x2 (zb d)) zg12 := by
  intro σ τ hI
  show zSimC kk (f_X8_need σ x1 x2 (zb d)) (f_X9_need τ x1 x2 (zb d)) zg12 σ τ
  unfold f_X8_need f_X8_need_22 f_X9_need f_X9_need_11
  cases d with
  | false => exact zTel1 hk hI (a := 1) x1 x2 (by omega)
  | true => exact zTel1 hk hI (a := 0) x1 x2 (by omega)
theorem zc_drop {kk : Nat} (hk : kk < 600) (x1 x2 : Int32) : zSim kk (fun σ => f_X8_drop σ x1 x2) (fun τ => f_X9_drop τ x1 x2) zg12 := by
  intro σ τ hI
  show zSimC kk (f_X8_drop σ x1 x2) (f_X9_drop τ x1 x2) zg12 σ τ
  unfold f_X8_drop f_X9_drop
  exact zTel1 hk hI (a := 3) x1 x2 (by omega)
theorem z9nu (x v : Int32) : ∃ b, f_X9_isNumber x v = some (zb b) := by
  obtain ⟨p, _, p2, _⟩ := zArN v
  unfold f_X9_isNumber
  rw [p2, z9inb, z9inb, z9inb]
  simp only [zbd_s, zbg, zgd_t]
  by_cases c0 : x = 0
  · rw [if_pos c0]; exact ⟨_, rfl⟩
  · rw [if_neg c0]
    by_cases c3 : x = 3
    · rw [if_pos c3]; exact ⟨_, rfl⟩
    · rw [if_neg c3]
      by_cases c4 : x = 4
      · rw [if_pos c4]; exact ⟨_, rfl⟩
      · rw [if_neg c4]; exact ⟨_, rfl⟩
theorem z8n36 {y v : Int32} : f_X8_isNumberOf_36 y v = some (zb (!(decide (v < 0)) && !(decide (y < v)))) := z9inb (x := v) (l := 0) (h := y)
theorem zArV {s : Nat} (v : Int32) (hs : s < 5) : ∃ b, f_X8_isNumberOf (nI s) v = some (zb b) ∧ f_X9_isNumber (nI s) v = some (zb b) ∧ (b = true → ∃ d, v = nI d ∧ d < 10000 ∧ ((s = 1 ∨ s = 2) → znm d = true)) := by
  obtain ⟨p, p1, p2, p3⟩ := zArN v
  have hin : ∀ m : Nat, m < 1000 → (!(decide (v < 0)) && !(decide (nI m < v))) = true → ∃ d, v = nI d ∧ d < 10000 := fun m hm h => by
    obtain ⟨d, hd, e⟩ := zAr (by omega) h
    exact ⟨d, e, by omega⟩
  unfold f_X8_isNumberOf f_X8_isNumberOf_10 f_X9_isNumber
  rw [p1, p2, z9inb, z9inb, z9inb, z8n36, z8n36, z8n36]
  simp only [zbd_s, zbg, zgd_t]
  have h5 : s = 0 ∨ s = 1 ∨ s = 2 ∨ s = 3 ∨ s = 4 := by omega
  rcases h5 with q | q | q | q | q <;> subst q
  · refine ⟨_, rfl, rfl, fun h => ?_⟩
    obtain ⟨d, e, hd⟩ := hin 99 (by omega) h
    exact ⟨d, e, hd, fun w => by omega⟩
  · refine ⟨p, rfl, rfl, fun h => ?_⟩
    obtain ⟨d, e, hd⟩ := p3 h
    exact ⟨d, e, znm_lt hd, fun _ => hd⟩
  · refine ⟨p, rfl, rfl, fun h => ?_⟩
    obtain ⟨d, e, hd⟩ := p3 h
    exact ⟨d, e, znm_lt hd, fun _ => hd⟩
  · refine ⟨_, rfl, rfl, fun h => ?_⟩
    obtain ⟨d, e, hd⟩ := hin 5 (by omega) h
    exact ⟨d, e, hd, fun w => by omega⟩
  · refine ⟨_, rfl, rfl, fun h => ?_⟩
    obtain ⟨d, e, hd⟩ := hin 996 (by omega) h
    exact ⟨d, e, hd, fun w => by omega⟩
theorem zc_put {kk : Nat} (hk : kk < 600) (x1 x2 x3 x4 : Int32) : zSim kk (fun σ => f_X8_put σ x1 x2 x3 x4) (fun τ => f_X9_put τ x1 x2 x3 x4) zg12 := by
  intro σ τ hI
  show zSimC kk (f_X8_put σ x1 x2 x3 x4) (f_X9_put τ x1 x2 x3 x4) zg12 σ τ
  obtain ⟨hk6, Z, RS, T, now, cc, t, hJ, hK, hu, hT, hTo, hnow, ht⟩ := id hI
  obtain ⟨p, p1, p2, p3⟩ := zArP x1
  obtain ⟨s, s1, s2, s3⟩ := zArS x2
  obtain ⟨l, l1, l2, l3⟩ := zArL x4
  obtain ⟨b, b1⟩ := z9nu x2 x3
  have h10 := hT.2.2.1.1
  have h5 := hT.1.1
  have e9 : f_X9_put τ x1 x2 x3 x4 = f_X9_tells_27 τ (zb ((b && l) && (p && s))) 2 x1 x2 x3 x4 := by
    have e8 : f_X9_put τ x1 x2 x3 x4 = f_X9_put_25 τ (zb (b && l)) x1 x2 x3 x4 := by
      unfold f_X9_put f_X9_put_24
      rw [b1, l2]
      cases b <;> cases l <;> rfl
    rw [e8]
    unfold f_X9_put_25
    rw [z9te0 p2 s2]
    exact zfl
  rw [e9]
  unfold f_X8_put f_X8_put_21
  rw [zCps p1 s1]
  by_cases c1 : (p && s) = true
  · have c1' := c1
    rw [Bool.and_eq_true] at c1
    obtain ⟨n, en, hn⟩ := p3 c1.1
    obtain ⟨m, hm, em⟩ := s3 c1.2
    obtain ⟨v, v1, v2, v3⟩ := zArV x3 hm
    rw [em] at b1
    have ebv : b = v := by
      rw [v2] at b1
      have := Option.some.inj b1
      exact (zbq.mp this).symm
    subst ebv
    rw [c1', if_pos rfl, zbx_0, em, v1, zbd_s, l1, zbd_s, Bool.and_true]
    cases b with
    | false =>
      rw [if_pos (show zb false = 0 from rfl), show (false && l) = false from rfl, z9teN (y := false) hT.2.1.1 h10 (fun w => (nomatch w.1))]
      exact zRef hI hk rfl rfl zn1 zn1 (fun _ => rfl)
    | true =>
      rw [if_neg (show ¬ zb true = 0 by decide)]
      cases l with
      | false =>
        rw [if_pos (show zb false = 0 from rfl), show (true && false) = false from rfl, z9teN (y := false) hT.2.1.1 h10 (fun w => (nomatch w.1))]
        exact zRef hI hk rfl rfl zn1 zn1 (fun _ => rfl)
      | true =>
        obtain ⟨d, ed, hd, hd2⟩ := v3 rfl
        obtain ⟨w, hw, ew⟩ := l3 rfl
        unfold f_X8_checkRoomToTell
        rw [if_neg (show ¬ zb true = 0 by decide), h5, zl_10]
        by_cases c2 : T.1 < 10
        · rw [if_pos (nI_lt c2 (by omega)), zbx_0, z3tell h5 c2, show (true && true) = true from rfl, z9teY hT.2.1.1 c2, zbd_s]
          simp only [zlt_e]
          exact zSuc rfl rfl ((zcU_j (by decide)).trans zst_s) (zTell hk hI (a := 2) (b := n) (c := m) (d := d) (e := w) hT rfl c2 (by omega) hn hm (fun _ => ⟨hd, hw, hd2⟩) en rfl ed ew) (fun z h => zcT_o (by omega)) (fun z h => (zcU_o (by omega)).trans (zst_o (by omega)))
        · rw [if_neg (nI_nlt (by omega) (by omega)), zbx_e zn2, show (true && true) = true from rfl, z9teN hT.2.1.1 h10 (fun w => c2 w.2)]
          exact zRef hI hk rfl rfl zn2 zn2 (fun _ => rfl)
  · rw [Bool.eq_false_iff.mpr c1, if_neg (show ¬ false = true by decide), zbx_e zn1, Bool.and_false, z9teN (y := false) hT.2.1.1 h10 (fun w => (nomatch w.1))]
    exact zRef hI hk rfl rfl zn1 zn1 (fun _ => rfl)
