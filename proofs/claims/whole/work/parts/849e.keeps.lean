/-! kept answers: the class's rows and the reference's are one sequence -/
def zKg (τ : zt_St) (now r : Nat) : Prop := ∃ kd l tm, τ 116 r = nI kd ∧ (kd = 0 ∨ kd = 1 ∨ kd = 2 ∨ kd = 4) ∧ τ 119 r = nI l ∧ l ≤ 50 ∧ τ 120 r = nI tm ∧ tm ≤ now ∧ (kd = 4 → ∃ m, znm m = true ∧ τ 118 r = nI m) ∧ (kd ≠ 0 → τ 117 r = -1)
def zKd (σ τ : zt_St) (w ρ : Nat → Nat) (c now t : Nat) : Prop := (∀ r, r < c → ρ r < c ∧ (∀ e, e < 7 → σ (82 + e) (ρ r) = τ (114 + e) r) ∧ σ 89 (ρ r) = nI (w r) ∧ w r < t ∧ zKg τ now r) ∧ (∀ j, j < c → ∃ r, r < c ∧ ρ r = j) ∧ (∀ r r', r < r' → r' < c → w r < w r') ∧ (∀ r r', r < c → r' < c → τ 114 r = τ 114 r' → τ 115 r = τ 115 r' → r = r')
theorem zKfi {σ τ : zt_St} {w ρ : Nat → Nat} {c now t : Nat} {x y : Int32} (h : zKd σ τ w ρ c now t) : (zfi (zkq (τ 114) (τ 115) x y) c 0 = none ∧ zfi (zkq (σ 82) (σ 83) x y) c 0 = none ∧ ∀ r, r < c → ¬ (τ 114 r = x ∧ τ 115 r = y)) ∨ ∃ r, r < c ∧ zfi (zkq (τ 114) (τ 115) x y) c 0 = some r ∧ zfi (zkq (σ 82) (σ 83) x y) c 0 = some (ρ r) ∧ τ 114 r = x ∧ τ 115 r = y := by
  obtain ⟨h1, h2, h3, h4⟩ := h
  have hq : ∀ r, r < c → zkq (σ 82) (σ 83) x y (ρ r) = zkq (τ 114) (τ 115) x y r := fun r hr => by
    have e0 : σ 82 (ρ r) = τ 114 r := (h1 r hr).2.1 0 (by decide)
    have e1 : σ 83 (ρ r) = τ 115 r := (h1 r hr).2.1 1 (by decide)
    unfold zkq
    rw [e0, e1]
  rcases zfi_c (zkq (τ 114) (τ 115) x y) c 0 with ⟨a1, a2⟩ | ⟨r, a1, _, a3, a4, _⟩
  · refine Or.inl ⟨a1, ?_, fun r hr w => ?_⟩
    · rcases zfi_c (zkq (σ 82) (σ 83) x y) c 0 with ⟨b1, _⟩ | ⟨j, _, _, b3, b4, _⟩
      · exact b1
      · obtain ⟨r, hr, hj⟩ := h2 j (by omega)
        have q := a2 r (by omega) (by omega)
        rw [← hq r hr, hj, b4] at q
        cases q
    · have q := a2 r (by omega) (by omega)
      exact of_decide_eq_false q w
  · have hr : r < c := by omega
    have a5 := of_decide_eq_true a4
    refine Or.inr ⟨r, hr, a1, ?_, a5.1, a5.2⟩
    rcases zfi_c (zkq (σ 82) (σ 83) x y) c 0 with ⟨b1, b2⟩ | ⟨j, b1, _, b3, b4, _⟩
    · have q := b2 (ρ r) (by omega) (by have := (h1 r hr).1; omega)
      rw [hq r hr, a4] at q
      cases q
    · obtain ⟨r', hr', hj⟩ := h2 j (by omega)
      rw [← hj, hq r' hr'] at b4
      have b5 := of_decide_eq_true b4
      have q := h4 r r' hr hr' (a5.1.trans b5.1.symm) (a5.2.trans b5.2.symm)
      rw [b1, ← hj, q]
theorem zKgen {σ τ σ' τ' : zt_St} {w ρ κ : Nat → Nat} {c C v now t : Nat} {F : Nat → Int32} (h : zKd σ τ w ρ c now t)
    (k1 : ∀ r, r < C → κ r < c) (k2 : ∀ r r', r < r' → r' < C → κ r < κ r')
    (hv : v < C + 1) (v1 : ∀ r, r < C → ρ (κ r) ≠ v ∧ ρ (κ r) < C + 1) (v2 : ∀ j, j < C + 1 → j ≠ v → ∃ r, r < C ∧ ρ (κ r) = j)
    (s1 : ∀ e, e < 7 → ∀ j, σ' (82 + e) j = if j = v then F e else σ (82 + e) j) (s2 : ∀ j, σ' 89 j = if j = v then nI t else σ 89 j)
    (m1 : ∀ e, e < 7 → τ' (114 + e) C = F e ∧ ∀ r, r < C → τ' (114 + e) r = τ (114 + e) (κ r))
    (fr : ∀ r, r < C → ¬ (τ 114 (κ r) = F 0 ∧ τ 115 (κ r) = F 1)) (hg : zKg τ' now C) : ∃ w' ρ', zKd σ' τ' w' ρ' (C + 1) now (t + 1) := by
  obtain ⟨h1, h2, h3, h4⟩ := h
  have n0 : τ' 114 C = F 0 := (m1 0 (by decide)).1
  have n1 : τ' 115 C = F 1 := (m1 1 (by decide)).1
  have o0 : ∀ r, r < C → τ' 114 r = τ 114 (κ r) := (m1 0 (by decide)).2
  have o1 : ∀ r, r < C → τ' 115 r = τ 115 (κ r) := (m1 1 (by decide)).2
  refine ⟨fun r => if r = C then t else w (κ r), fun r => if r = C then v else ρ (κ r), fun r hr => ?_, fun j hj => ?_, fun r r' hr hr' => ?_, fun r r' hr hr' e1 e2 => ?_⟩
  · by_cases c1 : r = C
    · refine ⟨?_, fun e he => ?_, ?_, ?_, by rw [c1]; exact hg⟩
      · show (if r = C then v else ρ (κ r)) < C + 1
        rw [if_pos c1]; exact hv
      · show σ' (82 + e) (if r = C then v else ρ (κ r)) = _
        rw [if_pos c1, s1 e he, if_pos rfl, c1, (m1 e he).1]
      · show σ' 89 (if r = C then v else ρ (κ r)) = nI (if r = C then t else w (κ r))
        rw [if_pos c1, if_pos c1, s2, if_pos rfl]
      · show (if r = C then t else w (κ r)) < t + 1
        rw [if_pos c1]; omega
    · have hr2 : r < C := by omega
      obtain ⟨a1, a2, a3, a4, kd, l, tm, g1, g2, g3, g4, g5, g6, g7, g8⟩ := h1 (κ r) (k1 r hr2)
      have em : ∀ e, e < 7 → τ' (114 + e) r = τ (114 + e) (κ r) := fun e he => (m1 e he).2 r hr2
      have e2 : τ' 116 r = τ 116 (κ r) := em 2 (by decide)
      have e3 : τ' 117 r = τ 117 (κ r) := em 3 (by decide)
      have e4 : τ' 118 r = τ 118 (κ r) := em 4 (by decide)
      have e5 : τ' 119 r = τ 119 (κ r) := em 5 (by decide)
      have e6 : τ' 120 r = τ 120 (κ r) := em 6 (by decide)
      refine ⟨?_, fun e he => ?_, ?_, ?_, kd, l, tm, e2.trans g1, g2, e5.trans g3, g4, e6.trans g5, g6, fun q => (g7 q).imp fun m z => ⟨z.1, e4.trans z.2⟩, fun q => e3.trans (g8 q)⟩
      · show (if r = C then v else ρ (κ r)) < C + 1
        rw [if_neg c1]; exact (v1 r hr2).2
      · show σ' (82 + e) (if r = C then v else ρ (κ r)) = _
        rw [if_neg c1, s1 e he, if_neg (v1 r hr2).1, em e he]; exact a2 e he
      · show σ' 89 (if r = C then v else ρ (κ r)) = nI (if r = C then t else w (κ r))
        rw [if_neg c1, if_neg c1, s2, if_neg (v1 r hr2).1, a3]
      · show (if r = C then t else w (κ r)) < t + 1
        rw [if_neg c1]; omega
  · by_cases c1 : j = v
    · exact ⟨C, by omega, (if_pos rfl).trans c1.symm⟩
    · obtain ⟨r, hr, e⟩ := v2 j hj c1
      exact ⟨r, by omega, (if_neg (by omega)).trans e⟩
  · show (if r = C then t else w (κ r)) < (if r' = C then t else w (κ r'))
    rw [if_neg (show ¬ r = C by omega)]
    by_cases c1 : r' = C
    · rw [if_pos c1]
      exact (h1 (κ r) (k1 r (by omega))).2.2.2.1
    · rw [if_neg c1]
      exact h3 _ _ (k2 r r' hr (by omega)) (k1 r' (by omega))
  · by_cases c1 : r = C
    · by_cases c2 : r' = C
      · omega
      · have hr2 : r' < C := by omega
        rw [c1, n0, o0 r' hr2] at e1
        rw [c1, n1, o1 r' hr2] at e2
        exact absurd ⟨e1.symm, e2.symm⟩ (fr r' hr2)
    · have hr3 : r < C := by omega
      by_cases c2 : r' = C
      · rw [c2, n0, o0 r hr3] at e1
        rw [c2, n1, o1 r hr3] at e2
        exact absurd ⟨e1, e2⟩ (fr r hr3)
      · have hr2 : r' < C := by omega
        rw [o0 r hr3, o0 r' hr2] at e1
        rw [o1 r hr3, o1 r' hr2] at e2
        have q := h4 _ _ (k1 r hr3) (k1 r' hr2) e1 e2
        rcases Nat.lt_trichotomy r r' with z | z | z
        · have := k2 r r' z hr2; omega
        · exact z
        · have := k2 r' r z hr3; omega
theorem zKinj {σ τ : zt_St} {w ρ : Nat → Nat} {c now t : Nat} (h : zKd σ τ w ρ c now t) (ht : t < 2 ^ 31) : ∀ r r', r < c → r' < c → ρ r = ρ r' → r = r' := by
  obtain ⟨h1, h2, h3, h4⟩ := h
  intro r r' hr hr' e
  have a := (h1 r hr).2.2.1
  have b := (h1 r' hr').2.2.1
  have a2 := (h1 r hr).2.2.2.1
  have b2 := (h1 r' hr').2.2.2.1
  rw [e, b] at a
  have q := (nI_eq (by omega) (by omega)).mp a
  rcases Nat.lt_trichotomy r r' with z | z | z
  · have := h3 r r' z hr'; omega
  · exact z
  · have := h3 r' r z hr; omega
/-- an answer is kept in place of an elder one -/
theorem zKrep {σ τ σ' τ' : zt_St} {w ρ : Nat → Nat} {c r0 now t : Nat} {F : Nat → Int32} (h : zKd σ τ w ρ c now t) (ht : t < 2 ^ 31) (hr0 : r0 < c)
    (s1 : ∀ e, e < 7 → ∀ j, σ' (82 + e) j = if j = ρ r0 then F e else σ (82 + e) j) (s2 : ∀ j, σ' 89 j = if j = ρ r0 then nI t else σ 89 j)
    (m1 : ∀ e, e < 7 → τ' (114 + e) (c - 1) = F e ∧ ∀ r, r < c - 1 → τ' (114 + e) r = if r0 ≤ r then τ (114 + e) (r + 1) else τ (114 + e) r)
    (fr : ∀ r, r < c → r ≠ r0 → ¬ (τ 114 r = F 0 ∧ τ 115 r = F 1)) (hg : zKg τ' now (c - 1)) : ∃ w' ρ', zKd σ' τ' w' ρ' c now (t + 1) := by
  have hi := zKinj h ht
  have hh := h
  obtain ⟨h1, h2, h3, h4⟩ := h
  have q := @zKgen σ τ σ' τ' w ρ (fun r => if r0 ≤ r then r + 1 else r) c (c - 1) (ρ r0) now t F hh
    (fun r hr => by show (if r0 ≤ r then r + 1 else r) < c; split <;> omega)
    (fun r r' hr hr' => by show (if r0 ≤ r then r + 1 else r) < (if r0 ≤ r' then r' + 1 else r'); split <;> split <;> omega)
    (by have := (h1 r0 hr0).1; omega)
    (fun r hr => by
      have z : (if r0 ≤ r then r + 1 else r) < c := by split <;> omega
      have z2 : (if r0 ≤ r then r + 1 else r) ≠ r0 := by split <;> omega
      exact ⟨fun e => z2 (hi _ _ z hr0 e), by have := (h1 _ z).1; omega⟩)
    (fun j hj hne => by
      obtain ⟨r, hr, e⟩ := h2 j (by omega)
      have z : r ≠ r0 := fun z => hne (by rw [← e, z])
      by_cases c1 : r < r0
      · exact ⟨r, by omega, by show ρ (if r0 ≤ r then r + 1 else r) = j; rw [if_neg (by omega), e]⟩
      · exact ⟨r - 1, by omega, by show ρ (if r0 ≤ r - 1 then r - 1 + 1 else r - 1) = j; rw [if_pos (by omega), Nat.sub_add_cancel (by omega), e]⟩)
    s1 s2
    (fun e he => ⟨(m1 e he).1, fun r hr => by
      show _ = τ (114 + e) (if r0 ≤ r then r + 1 else r)
      rw [(m1 e he).2 r hr]
      split <;> rfl⟩)
    (fun r hr => fr _ (by show (if r0 ≤ r then r + 1 else r) < c; split <;> omega) (by show (if r0 ≤ r then r + 1 else r) ≠ r0; split <;> omega))
    hg
  rw [Nat.sub_add_cancel (by omega)] at q
  exact q
/-- an answer is kept behind the others -/
theorem zKapp {σ τ σ' τ' : zt_St} {w ρ : Nat → Nat} {c now t : Nat} {F : Nat → Int32} (h : zKd σ τ w ρ c now t)
    (s1 : ∀ e, e < 7 → ∀ j, σ' (82 + e) j = if j = c then F e else σ (82 + e) j) (s2 : ∀ j, σ' 89 j = if j = c then nI t else σ 89 j)
    (m1 : ∀ e, e < 7 → τ' (114 + e) c = F e ∧ ∀ r, r < c → τ' (114 + e) r = τ (114 + e) r)
    (fr : ∀ r, r < c → ¬ (τ 114 r = F 0 ∧ τ 115 r = F 1)) (hg : zKg τ' now c) : ∃ w' ρ', zKd σ' τ' w' ρ' (c + 1) now (t + 1) := by
  have hh := h
  obtain ⟨h1, h2, h3, h4⟩ := h
  exact @zKgen σ τ σ' τ' w ρ (fun r => r) c c c now t F hh (fun r hr => hr) (fun r r' a b => a) (by omega)
    (fun r hr => by have := (h1 r hr).1; exact ⟨by omega, by omega⟩) (fun j hj hne => h2 j (by omega)) s1 s2 m1 fr hg
