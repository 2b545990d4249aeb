/-! the law's loop over both: every call is answered alike -/
def zLC (kk : Nat) (rL : Option (Int32 × zt_St)) (f9 : zt_St → Option (Int32 × zt_St)) : Prop := ∃ e σ1 w σ2, rL = some (e, σ1) ∧ f9 σ1 = some (w, σ2) ∧ σ2 94 0 = e ∧ (e = 0 → σ2 122 0 = w) ∧ zINV (kk + 1) σ2 σ2
def zLD (kk : Nat) (rL : Option (Int32 × zt_St)) (f9 : zt_St → Option zt_St) : Prop := ∃ e σ1 σ2, rL = some (e, σ1) ∧ f9 σ1 = some σ2 ∧ σ2 94 0 = e ∧ zINV (kk + 1) σ2 σ2
theorem zLCo {kk : Nat} {fc : zt_St → Option (Int32 × Int32 × zt_St)} {f9 : zt_St → Option (Int32 × zt_St)} {g f : Int32 → zt_St → Option (Int32 × zt_St)} {σ : zt_St} (H : zSim kk fc f9 g) (hI : zINV kk σ σ) (hf : ∀ v σ', fc σ = some (0, v, σ') → f v σ' = some (0, zt_st σ' 122 0 v)) : zLC kk (zt_bl (fc σ) f g) f9 := by
  obtain ⟨e, σ1, w, σ2, a1, a2, a3, a4, a5, a6⟩ := zGen (f := f) H hI true (fun v σ' h => hf v σ' h)
  exact ⟨e, σ1, w, σ2, a1, a2, a3, fun q => a4 q rfl, a5⟩
theorem zLDo {kk : Nat} {fc : zt_St → Option (Int32 × Int32 × zt_St)} {f9 : zt_St → Option zt_St} {g f : Int32 → zt_St → Option (Int32 × zt_St)} {σ : zt_St} (H : zSim kk fc (fun τ => zt_bd (f9 τ) fun τ' => some (0, τ')) g) (hI : zINV kk σ σ) (hf : ∀ v σ', fc σ = some (0, v, σ') → f v σ' = some (0, σ')) : zLD kk (zt_bl (fc σ) f g) f9 := by
  obtain ⟨e, σ1, w, σ2, a1, a2, a3, a4, a5, a6⟩ := zGen (f := f) H hI false (fun v σ' h => hf v σ' h)
  obtain ⟨x, x1, x2⟩ := zt_bd_some a2
  have e2 : x = σ2 := (Prod.mk.inj (Option.some.inj x2)).2
  subst e2
  exact ⟨e, σ1, _, a1, x1, a3, a5⟩
theorem zk_zone {kk : Nat} {σ : zt_St} (hk : kk < 600) (hI : zINV kk σ σ) (x y : Int32) : zLC kk (f_L_zone σ x y) (fun s => f_X9_zone s x y) := zLCo (zc_zone hk x y) hI (fun _ _ _ => rfl)
theorem zk_need {kk : Nat} {σ : zt_St} (hk : kk < 600) (hI : zINV kk σ σ) (x y : Int32) (d : Bool) : zLC kk (f_L_need σ x y (zb d)) (fun s => f_X9_need s x y (zb d)) := zLCo (zc_need hk x y d) hI (fun _ _ _ => rfl)
theorem zk_put {kk : Nat} {σ : zt_St} (hk : kk < 600) (hI : zINV kk σ σ) (x y z w : Int32) : zLC kk (f_L_put σ x y z w) (fun s => f_X9_put s x y z w) := zLCo (zc_put hk x y z w) hI (fun _ _ _ => rfl)
theorem zk_drop {kk : Nat} {σ : zt_St} (hk : kk < 600) (hI : zINV kk σ σ) (x y : Int32) : zLC kk (f_L_drop σ x y) (fun s => f_X9_drop s x y) := zLCo (zc_drop hk x y) hI (fun _ _ _ => rfl)
theorem zk_zoneHas {kk : Nat} {σ : zt_St} (hk : kk < 600) (hI : zINV kk σ σ) (x y : Int32) : zLC kk (f_L_zoneHas σ x y) (fun s => f_X9_zoneHas s x y) := zLCo (zc_zoneHas hk x y) hI (fun _ _ _ => rfl)
theorem zk_record {kk : Nat} {σ : zt_St} (hk : kk < 600) (hI : zINV kk σ σ) (x y z : Int32) : zLC kk (f_L_record σ x y z) (fun s => f_X9_record s x y z) := zLCo (zc_record hk x y z) hI (fun _ _ _ => rfl)
theorem zk_bringUp {kk : Nat} {σ : zt_St} (hk : kk < 600) (hI : zINV kk σ σ) (x : Int32) : zLC kk (f_L_bringUp σ x) (fun s => f_X9_bringUp s x) := zLCo (zc_bringUp hk x) hI (fun _ _ _ => rfl)
theorem zk_ask {kk : Nat} {σ : zt_St} (hk : kk < 600) (hI : zINV kk σ σ) (x y z : Int32) : zLC kk (f_L_ask σ x y z) (fun s => f_X9_ask s x y z) := zLCo (zc_ask hk x y z) hI (fun _ _ _ => rfl)
theorem zk_told {kk : Nat} {σ : zt_St} (hk : kk < 600) (hI : zINV kk σ σ) (x : Int32) : zLC kk (f_L_told σ x) (fun s => f_X9_told s x) := zLCo (zc_told hk x) hI (fun _ _ _ => rfl)
theorem zk_neighbour {kk : Nat} {σ : zt_St} (hk : kk < 600) (hI : zINV kk σ σ) (x y : Int32) (d : Bool) : zLC kk (f_L_neighbour σ x y (zb d)) (fun s => f_X9_neighbour s x y (zb d)) := zLCo (zc_neighbour hk x y d) hI (fun _ _ _ => rfl)
theorem zk_resolve {kk : Nat} {σ : zt_St} (hk : kk < 600) (hI : zINV kk σ σ) (x y : Int32) : zLC kk (f_L_resolve σ x y) (fun s => f_X9_resolve s x y) := zLCo (zc_resolve hk x y) hI (fun _ _ _ => rfl)
theorem zk_resolveAnew {kk : Nat} {σ : zt_St} (hk : kk < 600) (hI : zINV kk σ σ) (x y : Int32) : zLC kk (f_L_resolveAnew σ x y) (fun s => f_X9_resolveAnew s x y) := zLCo (zc_resolveAnew hk x y) hI (fun _ _ _ => rfl)
theorem zk_pass {kk : Nat} {σ : zt_St} (hk : kk < 600) (hI : zINV kk σ σ) (x : Int32) : zLC kk (f_L_pass σ x) (fun s => f_X9_pass s x) := zLCo (zc_pass hk x) hI (fun _ _ _ => rfl)
theorem zk_setKey {kk : Nat} {σ : zt_St} (hk : kk < 600) (hI : zINV kk σ σ) (x y z : Int32) : zLC kk (f_L_setKey σ x y z) (fun s => f_X9_setKey s x y z) := zLCo (zc_setKey hk x y z) hI (fun _ _ _ => rfl)
theorem zk_setAnchor {kk : Nat} {σ : zt_St} (hk : kk < 600) (hI : zINV kk σ σ) (x : Int32) : zLC kk (f_L_setAnchor σ x) (fun s => f_X9_setAnchor s x) := zLCo (zc_setAnchor hk x) hI (fun _ _ _ => rfl)
theorem zk_trust {kk : Nat} {σ : zt_St} (hk : kk < 600) (hI : zINV kk σ σ) (x y : Int32) : zLC kk (f_L_trust σ x y) (fun s => f_X9_trust s x y) := zLCo (zc_trust hk x y) hI (fun _ _ _ => rfl)
theorem zk_setDead {kk : Nat} {σ : zt_St} (hk : kk < 600) (hI : zINV kk σ σ) (x : Int32) (d : Bool) : zLD kk (f_L_setDead σ x (zb d)) (fun s => f_X9_setDead s x (zb d)) := zLDo (zc_setDead hk x d) hI (fun _ _ _ => rfl)
theorem zk_setWindow {kk : Nat} {σ : zt_St} (hk : kk < 600) (hI : zINV kk σ σ) (x y z : Int32) : zLD kk (f_L_setWindow σ x y z) (fun s => f_X9_setWindow s x y z) := zLDo (zc_setWindow hk x y z) hI (fun _ _ _ => rfl)
theorem z8u01 {σ σ' : zt_St} {x v : Int32} (h : f_X8_update σ x = some (0, v, σ')) : v = 0 ∨ v = 1 := by
  unfold f_X8_update at h
  obtain ⟨c, v0, s, hc, h2⟩ := zt_bx_some h
  rcases h2 with ⟨_, h3⟩ | ⟨hne, h3⟩
  · obtain ⟨z5, _, h4⟩ := zt_bd_some h3
    obtain ⟨_, h5⟩ := zt_gd_some h4
    obtain ⟨q9, _, h6⟩ := zt_bd_some h5
    obtain ⟨g, h7⟩ := zt_gd_some (c := (q9.1 == 0 || q9.1 == 1)) (x := some ((0 : Int32), q9.1, q9.2)) h6
    have e : q9.1 = v := (Prod.mk.inj (Prod.mk.inj (Option.some.inj h7)).2).1
    rw [e, Bool.or_eq_true, beq_iff_eq, beq_iff_eq] at g
    exact g
  · exact absurd (Prod.mk.inj (Option.some.inj h3)).1 hne
/-- an update: what the law holds against the reference's is 0 or 1 -/
theorem zk_update {kk : Nat} {σ : zt_St} (hk : kk < 600) (hI : zINV kk σ σ) (x : Int32) : ∃ e σ1 w σ2, f_L_update σ x = some (e, σ1) ∧ f_X9_update σ1 x = some (w, σ2) ∧ σ2 94 0 = e ∧ (e = 0 → σ2 122 0 = w ∧ (w = 0 ∨ w = 1)) ∧ zINV (kk + 1) σ2 σ2 := by
  obtain ⟨e, σ1, w, σ2, a1, a2, a3, a4, a5, a6⟩ := zGen (f := fun v1 σ2 => if v1 = 0 then f_L_update_15 σ2 0 else f_L_update_15 σ2 1) (zc_update hk x) hI true (fun v σ' h => by
    rcases z8u01 h with q | q <;> subst q
    · rfl
    · rfl)
  exact ⟨e, σ1, w, σ2, a1, a2, a3, fun q => ⟨a4 q rfl, by obtain ⟨s, hs⟩ := a6 q; exact z8u01 hs⟩, a5⟩
theorem zcmp {x : Int32} : lg_cmp x.toInt64 x.toInt64 = 0 := (lg_cmp_eq _ _).mpr rfl
theorem zBody {kk : Nat} {rL : Option (Int32 × zt_St)} {f9 : zt_St → Option (Int32 × zt_St)} (h : zLC kk rL f9) (k : zt_St → Option Int32) (hk : ∀ σ2, zINV (kk + 1) σ2 σ2 → k σ2 = some 1) :
    (zt_bd rL fun q => zt_lt q.1 fun v => zt_lt q.2 fun σ1 => zt_bd (f9 σ1) fun q2 => zt_lt q2.1 fun w => zt_lt q2.2 fun σ2 => zt_bd (f_X9_thrown σ2) fun t => if t = v then (if v = 0 then (if (lg_cmp ((σ2 122 0) : Int32).toInt64 (w : Int32).toInt64) = 0 then k σ2 else some 0) else k σ2) else some 0) = some 1 := by
  obtain ⟨e, σ1, w, σ2, a1, a2, a3, a4, a5⟩ := h
  rw [a1, zbd_s]
  show (zt_bd (f9 σ1) fun q2 => zt_lt q2.1 fun w => zt_lt q2.2 fun σ2 => zt_bd (f_X9_thrown σ2) fun t => if t = e then (if e = 0 then (if (lg_cmp ((σ2 122 0) : Int32).toInt64 (w : Int32).toInt64) = 0 then k σ2 else some 0) else k σ2) else some 0) = some 1
  rw [a2, zbd_s]
  show (if σ2 94 0 = e then (if e = 0 then (if (lg_cmp ((σ2 122 0) : Int32).toInt64 (w : Int32).toInt64) = 0 then k σ2 else some 0) else k σ2) else some 0) = some 1
  rw [if_pos a3]
  by_cases c : e = 0
  · rw [if_pos c, a4 c, if_pos zcmp]
    exact hk σ2 a5
  · rw [if_neg c]
    exact hk σ2 a5
theorem zBodyD {kk : Nat} {rL : Option (Int32 × zt_St)} {f9 : zt_St → Option zt_St} (h : zLD kk rL f9) (k : zt_St → Option Int32) (hk : ∀ σ2, zINV (kk + 1) σ2 σ2 → k σ2 = some 1) :
    (zt_bd rL fun q => zt_lt q.1 fun v => zt_lt q.2 fun σ1 => zt_bd (f9 σ1) fun σ2 => zt_bd (f_X9_thrown σ2) fun t => if t = v then k σ2 else some 0) = some 1 := by
  obtain ⟨e, σ1, σ2, a1, a2, a3, a5⟩ := h
  rw [a1, zbd_s]
  show (zt_bd (f9 σ1) fun σ2 => zt_bd (f_X9_thrown σ2) fun t => if t = e then k σ2 else some 0) = some 1
  rw [a2, zbd_s]
  show (if σ2 94 0 = e then k σ2 else some 0) = some 1
  rw [if_pos a3]
  exact hk σ2 a5
theorem zBodyU {kk : Nat} {xs : Nat → Int32} {L : Nat} {rc : zt_St → Int32 → Option Int32} {u : Int32} {σ : zt_St} (hk : kk < 600) (hI : zINV kk σ σ) (x : Int32) (hr : ∀ σ2, zINV (kk + 1) σ2 σ2 → rc σ2 (u + 5) = some 1) :
    (zt_bd (f_L_update σ x) fun q => zt_lt q.1 fun v => zt_lt q.2 fun σ1 => zt_bd (f_X9_update σ1 x) fun q2 => zt_lt q2.1 fun w => zt_lt q2.2 fun σ2 => zt_bd (f_X9_thrown σ2) fun t => if t = v then (if v = 0 then (if w = 0 then f_L_law_510 xs L rc σ2 0 (σ2 122 0) u else f_L_law_510 xs L rc σ2 1 (σ2 122 0) u) else f_L_law_516 xs L rc σ2 u) else some 0) = some 1 := by
  obtain ⟨e, σ1, w, σ2, a1, a2, a3, a4, a5⟩ := zk_update hk hI x
  rw [a1, zbd_s]
  show (zt_bd (f_X9_update σ1 x) fun q2 => zt_lt q2.1 fun w => zt_lt q2.2 fun σ2 => zt_bd (f_X9_thrown σ2) fun t => if t = e then (if e = 0 then (if w = 0 then f_L_law_510 xs L rc σ2 0 (σ2 122 0) u else f_L_law_510 xs L rc σ2 1 (σ2 122 0) u) else f_L_law_516 xs L rc σ2 u) else some 0) = some 1
  rw [a2, zbd_s]
  show (if σ2 94 0 = e then (if e = 0 then (if w = 0 then f_L_law_510 xs L rc σ2 0 (σ2 122 0) u else f_L_law_510 xs L rc σ2 1 (σ2 122 0) u) else f_L_law_516 xs L rc σ2 u) else some 0) = some 1
  rw [if_pos a3]
  by_cases c : e = 0
  · obtain ⟨b1, b2⟩ := a4 c
    rw [if_pos c, b1]
    unfold f_L_law_510
    rcases b2 with q | q
    · rw [if_pos q, q, if_pos zcmp]
      exact hr σ2 a5
    · rw [if_neg (by rw [q]; decide), q, if_pos zcmp]
      exact hr σ2 a5
  · rw [if_neg c]
    exact hr σ2 a5
theorem zBodyF {kk : Nat} {σ : zt_St} (hk : kk < 600) (hI : zINV kk σ σ) (k : zt_St → Option Int32) (hr : ∀ σ2, zINV (kk + 1) σ2 σ2 → k σ2 = some 1) :
    (zt_bd (f_X8_forget σ) fun q => zt_lt q.1 fun v => zt_lt q.2 fun σ1 => zt_bd (f_X9_forget σ1) fun q2 => zt_lt q2.1 fun w => zt_lt q2.2 fun σ2 => if v = w then k σ2 else some 0) = some 1 := by
  obtain ⟨v, σ1, σ2, a1, a2, a3⟩ := zc_forget hk hI
  rw [a1, zbd_s]
  show (zt_bd (f_X9_forget σ1) fun q2 => zt_lt q2.1 fun w => zt_lt q2.2 fun σ2 => if v = w then k σ2 else some 0) = some 1
  rw [a2, zbd_s]
  show (if v = v then k σ2 else some 0) = some 1
  rw [if_pos rfl]
  exact hr σ2 a3
set_option maxHeartbeats 4000000 in
theorem zBdy {kk : Nat} {xs : Nat → Int32} {L i : Nat} {rc : zt_St → Int32 → Option Int32} {σ : zt_St} (hk : kk < 600) (hI : zINV kk σ σ) (hL : L ≤ 2560) (hi : i + 5 ≤ L) (hr : ∀ σ2, zINV (kk + 1) σ2 σ2 → rc σ2 (nI i + 5) = some 1) : f_L_law_23b xs L rc σ (nI i) = some 1 := by
  have hlt : ¬ (Int32.ofNat L) - 5 < nI i := by
    rw [show (Int32.ofNat L) - 5 = nI (L - 5) from pk_sub (a := L) (b := 5) (by omega)]
    exact nI_nlt (by omega) (by omega)
  have g0 : zt_gI (nI i) L = true := zgI (by omega) (by omega)
  have g1 : zt_gI (nI i + 1) L = true := by rw [nI_1]; exact zgI (by omega) (by omega)
  have g2 : zt_gI (nI i + 2) L = true := by rw [zl_2, nI_add]; exact zgI (by omega) (by omega)
  have g3 : zt_gI (nI i + 3) L = true := by rw [zl_3, nI_add]; exact zgI (by omega) (by omega)
  have g4 : zt_gI (nI i + 4) L = true := by rw [zl_4, nI_add]; exact zgI (by omega) (by omega)
  have hr2 : ∀ σ2, zINV (kk + 1) σ2 σ2 → f_L_law_1488 xs L rc σ2 (nI i) = some 1 := hr
  unfold f_L_law_23b
  rw [if_neg hlt, g0, zgd_t]
  generalize nI i = u at g1 g2 g3 g4 hr hr2
  by_cases c0 : (xs u.toNatClampNeg &&& 31) = 0
  · rw [if_pos c0]
    simp only [g1, g2, zgd_t]
    exact zBody (zk_zone hk hI _ _) (fun s => f_L_law_197 xs L rc s u) hr2
  rw [if_neg c0]
  by_cases c1 : (xs u.toNatClampNeg &&& 31) = 1
  · rw [if_pos c1]
    simp only [g1, g2, g3, zgd_t]
    unfold f_L_law_227
    simp only [g1, g2, g3, zgd_t]
    by_cases c : xs (u + 3).toNatClampNeg = 0
    · simp only [if_pos c]
      exact zBody (zk_need hk hI _ _ false) (fun s => f_L_law_293 xs L rc s u) hr2
    · simp only [if_neg c]
      exact zBody (zk_need hk hI _ _ true) (fun s => f_L_law_293 xs L rc s u) hr2
  rw [if_neg c1]
  by_cases c2 : (xs u.toNatClampNeg &&& 31) = 2
  · rw [if_pos c2]
    simp only [g1, g2, g3, g4, zgd_t]
    exact zBody (zk_put hk hI _ _ _ _) (fun s => f_L_law_385 xs L rc s u) hr2
  rw [if_neg c2]
  by_cases c3 : (xs u.toNatClampNeg &&& 31) = 3
  · rw [if_pos c3]
    simp only [g1, g2, zgd_t]
    exact zBody (zk_drop hk hI _ _) (fun s => f_L_law_453 xs L rc s u) hr2
  rw [if_neg c3]
  by_cases c4 : (xs u.toNatClampNeg &&& 31) = 4
  · rw [if_pos c4]
    simp only [g1, zgd_t]
    exact zBodyU hk hI _ hr2
  rw [if_neg c4]
  by_cases c5 : (xs u.toNatClampNeg &&& 31) = 5
  · rw [if_pos c5]
    simp only [g1, g2, zgd_t]
    exact zBody (zk_zoneHas hk hI _ _) (fun s => f_L_law_584 xs L rc s u) hr2
  rw [if_neg c5]
  by_cases c6 : (xs u.toNatClampNeg &&& 31) = 6
  · rw [if_pos c6]
    simp only [g1, g2, g3, zgd_t]
    exact zBody (zk_record hk hI _ _ _) (fun s => f_L_law_664 xs L rc s u) hr2
  rw [if_neg c6]
  by_cases c7 : (xs u.toNatClampNeg &&& 31) = 7
  · rw [if_pos c7]
    simp only [g1, zgd_t]
    exact zBody (zk_bringUp hk hI _) (fun s => f_L_law_720 xs L rc s u) hr2
  rw [if_neg c7]
  by_cases c8 : (xs u.toNatClampNeg &&& 31) = 8
  · rw [if_pos c8]
    simp only [g1, g2, zgd_t]
    unfold f_L_law_744
    simp only [g1, g2, zgd_t]
    by_cases c : xs (u + 2).toNatClampNeg = 0
    · simp only [if_pos c]
      exact zBodyD (zk_setDead hk hI _ false) (fun s => f_L_law_1488 xs L rc s u) hr2
    · simp only [if_neg c]
      exact zBodyD (zk_setDead hk hI _ true) (fun s => f_L_law_1488 xs L rc s u) hr2
  rw [if_neg c8]
  by_cases c9 : (xs u.toNatClampNeg &&& 31) = 9
  · rw [if_pos c9]
    simp only [g1, g2, g3, zgd_t]
    exact zBody (zk_ask hk hI _ _ _) (fun s => f_L_law_864 xs L rc s u) hr2
  rw [if_neg c9]
  by_cases c10 : (xs u.toNatClampNeg &&& 31) = 10
  · rw [if_pos c10]
    simp only [g1, zgd_t]
    exact zBody (zk_told hk hI _) (fun s => f_L_law_920 xs L rc s u) hr2
  rw [if_neg c10]
  by_cases c11 : (xs u.toNatClampNeg &&& 31) = 11
  · rw [if_pos c11]
    simp only [g1, g2, g3, zgd_t]
    unfold f_L_law_950
    simp only [g1, g2, g3, zgd_t]
    by_cases c : xs (u + 3).toNatClampNeg = 0
    · simp only [if_pos c]
      exact zBody (zk_neighbour hk hI _ _ false) (fun s => f_L_law_1016 xs L rc s u) hr2
    · simp only [if_neg c]
      exact zBody (zk_neighbour hk hI _ _ true) (fun s => f_L_law_1016 xs L rc s u) hr2
  rw [if_neg c11]
  by_cases c12 : (xs u.toNatClampNeg &&& 31) = 12
  · rw [if_pos c12]
    simp only [g1, g2, zgd_t]
    exact zBody (zk_resolve hk hI _ _) (fun s => f_L_law_1084 xs L rc s u) hr2
  rw [if_neg c12]
  by_cases c13 : (xs u.toNatClampNeg &&& 31) = 13
  · rw [if_pos c13]
    simp only [g1, g2, zgd_t]
    exact zBody (zk_resolveAnew hk hI _ _) (fun s => f_L_law_1152 xs L rc s u) hr2
  rw [if_neg c13]
  by_cases c14 : (xs u.toNatClampNeg &&& 31) = 14
  · rw [if_pos c14]
    exact zBodyF hk hI (fun s => f_L_law_1488 xs L rc s u) hr2
  rw [if_neg c14]
  by_cases c15 : (xs u.toNatClampNeg &&& 31) = 15
  · rw [if_pos c15]
    simp only [g1, zgd_t]
    exact zBody (zk_pass hk hI _) (fun s => f_L_law_1221 xs L rc s u) hr2
  rw [if_neg c15]
  by_cases c16 : (xs u.toNatClampNeg &&& 31) = 16
  · rw [if_pos c16]
    simp only [g1, g2, g3, zgd_t]
    exact zBody (zk_setKey hk hI _ _ _) (fun s => f_L_law_1301 xs L rc s u) hr2
  rw [if_neg c16]
  by_cases c17 : (xs u.toNatClampNeg &&& 31) = 17
  · rw [if_pos c17]
    simp only [g1, g2, g3, zgd_t]
    exact zBodyD (zk_setWindow hk hI _ _ _) (fun s => f_L_law_1488 xs L rc s u) hr2
  rw [if_neg c17]
  by_cases c18 : (xs u.toNatClampNeg &&& 31) = 18
  · rw [if_pos c18]
    simp only [g1, zgd_t]
    exact zBody (zk_setAnchor hk hI _) (fun s => f_L_law_1417 xs L rc s u) hr2
  rw [if_neg c18]
  by_cases c19 : (xs u.toNatClampNeg &&& 31) = 19
  · rw [if_pos c19]
    simp only [g1, g2, zgd_t]
    exact zBody (zk_trust hk hI _ _) (fun s => f_L_law_1485 xs L rc s u) hr2
  rw [if_neg c19]
  exact hr2 σ (zINV_m hI hk)
theorem zs_law {xs : Nat → Int32} {L n : Nat} {σ : zt_St} {u : Int32} : f_L_law_23 xs L (n + 1) σ u = f_L_law_23b xs L (f_L_law_23 xs L n) σ u := rfl
theorem zEndL {xs : Nat → Int32} {L i n : Nat} {σ : zt_St} (hL : L ≤ 2560) (hi : L < i + 5) (hi2 : i < 4000) : f_L_law_23 xs L (n + 1) σ (nI i) = some 1 := by
  rw [zs_law]
  unfold f_L_law_23b
  refine if_pos ?_
  rw [show Int32.ofNat L = nI L from rfl, zl_5, Int32.lt_iff_toInt_lt, pk_sub_toInt (by omega) (by omega), nI_toInt (by omega)]
  omega
theorem zLoop {xs : Nat → Int32} {L : Nat} (hL : L ≤ 2560) : ∀ d kk (σ : zt_St) m, kk + d = 513 → zINV kk σ σ → f_L_law_23 xs L (m + d + 1) σ (nI (5 * kk)) = some 1 := by
  intro d
  induction d with
  | zero =>
    intro kk σ m h hI
    exact zEndL hL (by omega) (by omega)
  | succ d ih =>
    intro kk σ m h hI
    by_cases c : L < 5 * kk + 5
    · exact zEndL hL c (by omega)
    · rw [show m + (d + 1) + 1 = (m + d + 1) + 1 from rfl, zs_law]
      refine zBdy (by omega) hI hL (by omega) (fun σ2 h2 => ?_)
      rw [zl_5, nI_add, show 5 * kk + 5 = 5 * (kk + 1) by omega]
      exact ih (kk + 1) σ2 m (by omega) h2
