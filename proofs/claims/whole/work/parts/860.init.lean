/-! the start holds the relation; the law's loop ends with true -/
theorem zi_1 : ∀ i, i < 6 → zt_s0 (3 + 11 * i + 1) 4 = nI 0 ∧ zt_s0 (3 + 11 * i + 6) 4 = nI 0 ∧ zt_s0 103 i = nI 0 ∧ zt_s0 103 (6 + i) = nI 0 := by decide +kernel
theorem zi_2 : ∀ i, i < 6 → zt_s0 (3 + 11 * i) 1 = nI (if i = 0 then 10 else 0) ∧ zt_s0 96 i = nI (if i = 0 then 10 else 0) ∧ zt_s0 (3 + 11 * i) 2 = nI 0 ∧ zt_s0 97 i = nI 0 ∧ zt_s0 (3 + 11 * i) 3 = zt_s0 98 i ∧ zt_s0 98 i = -1 ∧ zt_s0 (3 + 11 * i) 4 = zt_s0 99 i ∧ zt_s0 99 i = 0 ∧ zt_s0 (3 + 11 * i) 5 = zt_s0 100 (2 * i) ∧ zt_s0 (3 + 11 * i) 6 = zt_s0 100 (2 * i + 1) ∧ zt_s0 (3 + 11 * i) 7 = zt_s0 101 i ∧ zt_s0 (3 + 11 * i) 8 = zt_s0 102 i := by decide +kernel
theorem zi_3 : zt_s0 1 1 = nI 1 ∧ zt_s0 3 0 = nI 0 ∧ zt_s0 94 2 = nI 1 ∧ zt_s0 95 0 = nI 0 ∧ zt_s0 80 3 = nI 0 ∧ zt_s0 94 1 = nI 0 ∧ zt_s0 80 4 = zt_s0 94 11 ∧ zt_s0 81 8 = nI 0 ∧ zt_s0 94 24 = nI 0 ∧ zt_s0 81 9 = nI 0 ∧ zt_s0 69 5 = nI 0 ∧ zt_s0 94 17 = nI 0 ∧ zt_s0 92 0 = -1 := by decide +kernel
theorem zi_4 : ∀ j, j < 5 → zt_s0 121 j = -1 := by decide +kernel
theorem zI0 : zINV 0 zt_s0 zt_s0 := by
  obtain ⟨a1, a2, a3, a4, a5, a6, a7, a8, a9, a10, a11, a12, a13⟩ := zi_3
  refine ⟨by omega, (1, fun _ => 0), fun _ => (0, fun _ => (0, 0, 0, 0)), (0, fun _ => (0, 0, 0, 0, 0)), 0, 0, 0, ⟨⟨⟨a1, fun i hi => ?_⟩, ⟨a3, fun i hi => ?_⟩, ⟨by decide, by decide, fun i _ => (by decide : znm 0 = true)⟩, rfl, fun i hi => ?_⟩, a5, a6, a7, by decide⟩, ⟨a8, a9, by decide, a10, fun _ => 0, fun _ => 0, fun r hr => absurd hr (Nat.not_lt_zero r), fun r hr => absurd hr (Nat.not_lt_zero r), fun r r' _ hr => absurd hr (Nat.not_lt_zero r'), fun r r' hr => absurd hr (Nat.not_lt_zero r)⟩, rfl, ⟨⟨a11, fun i hi => absurd hi (Nat.not_lt_zero i)⟩, ⟨a12, fun i hi => absurd hi (Nat.not_lt_zero i)⟩, ⟨by decide, fun i hi => absurd hi (Nat.not_lt_zero i)⟩, fun i hi => absurd hi (Nat.not_lt_zero i)⟩, Or.inl ⟨a13, zi_4⟩, Nat.zero_le _, Nat.zero_le _⟩
  · have e : i = 0 := by have h : i < 1 := hi; omega
    subst e; exact a2
  · have e : i = 0 := by have h : i < 1 := hi; omega
    subst e; exact a4
  · obtain ⟨b1, b2, b3, b4⟩ := zi_1 i hi
    obtain ⟨c1, c2, c3, c4, c5, c6, c7, c8, c9, c10, c11, c12⟩ := zi_2 i hi
    exact ⟨⟨⟨b1, fun j hj => absurd hj (Nat.not_lt_zero j)⟩, ⟨b2, fun j hj => absurd hj (Nat.not_lt_zero j)⟩, ⟨b3, fun j hj => absurd hj (Nat.not_lt_zero j)⟩, ⟨b4, fun j hj => absurd hj (Nat.not_lt_zero j)⟩⟩, ⟨zOK0 rfl, zOK0 rfl, fun _ => ⟨rfl, rfl⟩⟩, ⟨if i = 0 then 10 else 0, by split <;> omega, c1, c2⟩, ⟨0, by decide, c3, c4⟩, c5, Or.inl c6, c7, Or.inl c8, c9, c10, c11, c12⟩
theorem zt_truth {xs : Nat → Int32} {L : Nat} (hL : L ≤ 2560) : f_L_law_23 xs L zt_FU zt_s0 0 = some 1 := by
  rw [zfu 513 (by omega)]
  exact zLoop hL 513 0 zt_s0 (4999 - 513) rfl zI0
