/-! the zones as both have them; what an answer of a zone is -/
def zOK (R : zR) (a : Nat) (Z : Nat × (Nat → Nat)) : Prop := R.1 ≤ 20 ∧ zRB R ∧ zNN R ∧ zUQ R ∧ zal (zrf R a Z) R.1 0 = true
def zZF (σ τ : zt_St) (i : Nat) : Prop := (∃ lf, lf ≤ 50 ∧ σ (3 + 11 * i) 1 = nI lf ∧ τ 96 i = nI lf) ∧ (∃ se, se < 16 ∧ σ (3 + 11 * i) 2 = nI se ∧ τ 97 i = nI se) ∧ σ (3 + 11 * i) 3 = τ 98 i ∧ (τ 98 i = -1 ∨ ∃ c, c < 16 ∧ τ 98 i = nI c) ∧ σ (3 + 11 * i) 4 = τ 99 i ∧ (τ 99 i = 0 ∨ τ 99 i = 1) ∧ σ (3 + 11 * i) 5 = τ 100 (2 * i) ∧ σ (3 + 11 * i) 6 = τ 100 (2 * i + 1) ∧ σ (3 + 11 * i) 7 = τ 101 i ∧ σ (3 + 11 * i) 8 = τ 102 i
def zZn (σ τ : zt_St) (Z : Nat × (Nat → Nat)) (RS : Nat → zR) (i : Nat) : Prop := (zRC σ (3 + 11 * i + 1) (RS i) ∧ zRC σ (3 + 11 * i + 6) (RS (6 + i)) ∧ zRM τ i (RS i) ∧ zRM τ (6 + i) (RS (6 + i))) ∧ (zOK (RS i) (Z.2 i) Z ∧ zOK (RS (6 + i)) (Z.2 i) Z ∧ (Z.1 ≤ i → (RS i).1 = 0 ∧ (RS (6 + i)).1 = 0)) ∧ zZF σ τ i
def zIW (σ τ : zt_St) (Z : Nat × (Nat → Nat)) (RS : Nat → zR) : Prop := zZC σ Z ∧ zZM τ Z ∧ zZB Z ∧ Z.2 0 = 0 ∧ ∀ i, i < 6 → zZn σ τ Z RS i
theorem zZF_f {σ τ σ' τ' : zt_St} {i : Nat} (h : zZF σ τ i) (h1 : σ' (3 + 11 * i) = σ (3 + 11 * i)) (h2 : ∀ a, 96 ≤ a → a ≤ 102 → τ' a = τ a) : zZF σ' τ' i := by
  unfold zZF at h ⊢
  rw [h1, h2 96 (by decide) (by decide), h2 97 (by decide) (by decide), h2 98 (by decide) (by decide), h2 99 (by decide) (by decide), h2 100 (by decide) (by decide), h2 101 (by decide) (by decide), h2 102 (by decide) (by decide)]
  exact h
theorem zIW_f {σ τ σ' τ' : zt_St} {Z : Nat × (Nat → Nat)} {RS : Nat → zR} (h : zIW σ τ Z RS) (h1 : ∀ a, a < 69 → σ' a = σ a) (h2 : ∀ a, 95 ≤ a → a ≤ 107 → τ' a = τ a) (h3 : τ' 94 2 = τ 94 2) : zIW σ' τ' Z RS := by
  obtain ⟨⟨a1, a2⟩, ⟨b1, b2⟩, hB, h0, hz⟩ := h
  have h6 := hB.1
  refine ⟨⟨by rw [h1 1 (by decide)]; exact a1, fun i hi => by rw [h1 _ (by omega)]; exact a2 i hi⟩, ⟨h3.trans b1, fun i hi => by rw [h2 95 (by decide) (by decide)]; exact b2 i hi⟩, hB, h0, fun i hi => ?_⟩
  obtain ⟨⟨r1, r2, r3, r4⟩, c1, c2⟩ := hz i hi
  exact ⟨⟨zRC_f r1 (fun c _ _ => h1 c (by omega)), zRC_f r2 (fun c _ _ => h1 c (by omega)), zRM_f r3 (fun c _ _ => h2 c (by omega) (by omega)), zRM_f r4 (fun c _ _ => h2 c (by omega) (by omega))⟩, c1, zZF_f c2 (h1 _ (by omega)) (fun a p q => h2 a (by omega) (by omega))⟩
/-- what an answer of a zone is -/
def zaP (R : zR) (n turn : Nat) (r : zAn) : Prop := (r.1 = 0 ∨ r.1 = 1 ∨ r.1 = 2 ∨ r.1 = 3 ∨ r.1 = 4 ∨ r.1 = 5) ∧ (∃ l, l ≤ 50 ∧ r.2.2.2 = nI l) ∧ (r.1 = 4 → ∃ m, znm m = true ∧ r.2.2.1 = nI m) ∧ (r.1 = 3 → turn ≤ 1 ∧ ∃ i, i < R.1 ∧ zS R i = 3 ∧ zun n (zP R i) = true ∧ r.2.1 = nI (zV R i) ∧ r.2.2.1 = nI (zP R i) ∧ r.2.2.2 = nI (zL R i))
theorem zaP5 {R : zR} {n turn : Nat} {x y : Int32} : zaP R n turn (5, x, y, nI 0) := ⟨Or.inr (Or.inr (Or.inr (Or.inr (Or.inr rfl)))), ⟨0, by omega, rfl⟩, fun q => (nomatch q), fun q => (nomatch q)⟩
theorem zaP4 {R : zR} {n turn m l : Nat} {x : Int32} (hm : znm m = true) (hl : l ≤ 50) : zaP R n turn (4, x, nI m, nI l) := ⟨Or.inr (Or.inr (Or.inr (Or.inr (Or.inl rfl)))), ⟨l, hl, rfl⟩, fun _ => ⟨m, hm, rfl⟩, fun q => (nomatch q)⟩
theorem zas_c {R : zR} {a lf s : Nat} (hb : zRB R) (hF : zFS R) (hlf : lf ≤ 50) : ∀ d turn n L, znm n = true → L ≤ 50 → 1 ≤ turn → zaP R n turn (zas R a lf s d turn n L) := by
  intro d
  induction d with
  | zero => intro turn n L _ _ _; exact zaP5
  | succ d ih =>
    intro turn n L hn hL ht
    rw [zas_s]
    by_cases c1 : zcf R s n = true
    · rw [if_pos c1]
      by_cases c2 : turn ≤ 1
      · rw [if_pos c2]
        unfold zcf at c1
        unfold zre
        cases hc : zcut R n with
        | none => rw [hc] at c1; cases c1
        | some l =>
          obtain ⟨q1, q2, q3, _⟩ := zcut_s hc
          exact ⟨Or.inr (Or.inr (Or.inr (Or.inl rfl))), ⟨zL R l, (hb l q1).2.2.2, rfl⟩, fun q => (nomatch q), fun _ => ⟨c2, l, q1, q2, q3, rfl, rfl, rfl⟩⟩
      · rw [if_neg c2]
        exact zaP4 hn hL
    · rw [if_neg c1]
      cases hr : zrn R a s n with
      | none =>
        show zaP R n turn (zat R a lf s n L)
        unfold zat
        cases zrw R (zpp R a n) (nI s) with
        | some l => exact ⟨Or.inl rfl, ⟨min L (zL R l), by omega, rfl⟩, fun q => (nomatch q), fun q => (nomatch q)⟩
        | none =>
          by_cases c3 : zpp R a n = nI n ∨ 0 < zct (zqa R (zpp R a n)) R.1 0
          · rw [if_pos c3]
            exact ⟨Or.inr (Or.inl rfl), ⟨min L lf, by omega, rfl⟩, fun q => (nomatch q), fun q => (nomatch q)⟩
          · rw [if_neg c3]
            exact ⟨Or.inr (Or.inr (Or.inl rfl)), ⟨min L lf, by omega, rfl⟩, fun q => (nomatch q), fun q => (nomatch q)⟩
      | some w =>
        obtain ⟨l, nx⟩ := w
        obtain ⟨q1, q2⟩ := zrn_c hb hF hn hr
        show zaP R n turn (if nx = -1 ∨ turn = 9 then (5, -1, -1, nI 0) else if zun nx.toNatClampNeg a = true then zas R a lf s d (turn + 1) nx.toNatClampNeg (min L (zL R l)) else (4, -1, nx, nI (min L (zL R l))))
        by_cases c3 : nx = -1 ∨ turn = 9
        · rw [if_pos c3]; exact zaP5
        · rw [if_neg c3]
          obtain ⟨m, hm, e⟩ := q2.resolve_left (fun z => c3 (Or.inl z))
          have hmc : nx.toNatClampNeg = m := by rw [e]; exact nI_clamp (by have := znm_lt hm; omega)
          rw [hmc]
          by_cases c4 : zun m a = true
          · rw [if_pos c4]
            obtain ⟨p1, p2, p3, p4⟩ := ih (turn + 1) m (min L (zL R l)) hm (by omega) (by omega)
            exact ⟨p1, p2, p3, fun z => absurd (p4 z).1 (by omega)⟩
          · rw [if_neg c4, e]
            exact zaP4 hm (by omega)
/-- frames of one step of a resolver -/
def zFr (σ σ' : zt_St) : Prop := (∀ a, a < 80 ∨ 91 < a → σ' a = σ a) ∧ ∀ j, j ≠ 8 → j ≠ 10 → j ≠ 12 → j ≠ 13 → σ' 80 j = σ 80 j
def zGr (τ τ' : zt_St) : Prop := (∀ a, a < 94 ∨ 94 < a ∧ a < 113 ∨ 120 < a → τ' a = τ a) ∧ ∀ j, j ≠ 24 → j ≠ 32 → j ≠ 33 → j ≠ 34 → τ' 94 j = τ 94 j
theorem zFr_r {σ : zt_St} : zFr σ σ := ⟨fun _ _ => rfl, fun _ _ _ _ _ => rfl⟩
theorem zGr_r {σ : zt_St} : zGr σ σ := ⟨fun _ _ => rfl, fun _ _ _ _ _ => rfl⟩
theorem zFr_t {σ σ1 σ2 : zt_St} (h : zFr σ σ1) (h2 : zFr σ1 σ2) : zFr σ σ2 := ⟨fun a q => (h2.1 a q).trans (h.1 a q), fun j a b c d => (h2.2 j a b c d).trans (h.2 j a b c d)⟩
theorem zGr_t {σ σ1 σ2 : zt_St} (h : zGr σ σ1) (h2 : zGr σ1 σ2) : zGr σ σ2 := ⟨fun a q => (h2.1 a q).trans (h.1 a q), fun j a b c d => (h2.2 j a b c d).trans (h.2 j a b c d)⟩
theorem zFr_8 {σ : zt_St} {j : Nat} {x : Int32} (h : j = 8 ∨ j = 10 ∨ j = 12 ∨ j = 13) : zFr σ (zt_st σ 80 j x) := ⟨fun a q => zst_o (by omega), fun i a b c d => zst_j (by omega)⟩
theorem zFr_k {σ σ' : zt_St} (h : ∀ a, a < 81 ∨ 91 < a → σ' a = σ a) : zFr σ σ' := ⟨fun a q => h a (by omega), fun j _ _ _ _ => by rw [h 80 (by omega)]⟩
/-- what both know of now and of the anchor -/
def zJ1 (σ τ : zt_St) (Z : Nat × (Nat → Nat)) (RS : Nat → zR) (now : Nat) : Prop := zIW σ τ Z RS ∧ σ 80 3 = nI now ∧ τ 94 1 = nI now ∧ σ 80 4 = τ 94 11 ∧ now < 2 ^ 30
theorem zJ1_f {σ τ σ' τ' : zt_St} {Z : Nat × (Nat → Nat)} {RS : Nat → zR} {now : Nat} (h : zJ1 σ τ Z RS now) (h1 : zFr σ σ') (h2 : zGr τ τ') : zJ1 σ' τ' Z RS now := by
  obtain ⟨a1, a2, a3, a4, a5⟩ := h
  exact ⟨zIW_f a1 (fun a q => h1.1 a (by omega)) (fun a q r => h2.1 a (by omega)) (h2.2 2 (by decide) (by decide) (by decide) (by decide)), (h1.2 3 (by decide) (by decide) (by decide) (by decide)).trans a2, (h2.2 1 (by decide) (by decide) (by decide) (by decide)).trans a3, (h1.2 4 (by decide) (by decide) (by decide) (by decide)).trans (a4.trans (h2.2 11 (by decide) (by decide) (by decide) (by decide)).symm), a5⟩
theorem zIK_f {σ τ σ' τ' : zt_St} {c now t : Nat} (h : zIK σ τ c now t) (h1 : ∀ a, 81 ≤ a → a ≤ 89 → σ' a = σ a) (h2 : ∀ a, 114 ≤ a → a ≤ 120 → τ' a = τ a) (h3 : τ' 94 24 = τ 94 24) : zIK σ' τ' c now t := by
  obtain ⟨a1, a2, a3, a4, w, ρ, k1, k2, k3, k4⟩ := h
  refine ⟨by rw [h1 81 (by decide) (by decide)]; exact a1, h3.trans a2, a3, by rw [h1 81 (by decide) (by decide)]; exact a4, w, ρ, fun r hr => ?_, k2, k3, by rw [h2 114 (by decide) (by decide), h2 115 (by decide) (by decide)]; exact k4⟩
  obtain ⟨b1, b2, b3, b4, b5⟩ := k1 r hr
  refine ⟨b1, fun e he => by rw [h1 _ (by omega) (by omega), h2 _ (by omega) (by omega)]; exact b2 e he, by rw [h1 89 (by decide) (by decide)]; exact b3, b4, ?_⟩
  unfold zKg at b5 ⊢
  rw [h2 116 (by decide) (by decide), h2 117 (by decide) (by decide), h2 118 (by decide) (by decide), h2 119 (by decide) (by decide), h2 120 (by decide) (by decide)]
  exact b5
