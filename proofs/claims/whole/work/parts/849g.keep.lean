/-! an answer is kept, in both: the reference, and both together -/
def zcM (τ : zt_St) (a : Nat) (F : Nat → Int32) : zt_St := zt_st (zt_st (zt_st (zt_st (zt_st (zt_st (zt_st (zt_st τ 114 a (F 0)) 115 a (F 1)) 116 a (F 2)) 117 a (F 3)) 118 a (F 4)) 119 a (F 5)) 120 a (F 6)) 94 24 (nI (a + 1))
theorem zcM_s {τ : zt_St} {a : Nat} {F : Nat → Int32} : ∀ e, e < 7 → ∀ j, zcM τ a F (114 + e) j = if j = a then F e else τ (114 + e) j := by
  intro e he j
  unfold zcM
  have h : e = 0 ∨ e = 1 ∨ e = 2 ∨ e = 3 ∨ e = 4 ∨ e = 5 ∨ e = 6 := by omega
  rcases h with h | h | h | h | h | h | h <;> subst h
  · rw [zst_o (by decide), zst_o (by decide), zst_o (by decide), zst_o (by decide), zst_o (by decide), zst_o (by decide), zst_o (by decide)]; exact zst_if
  · rw [zst_o (by decide), zst_o (by decide), zst_o (by decide), zst_o (by decide), zst_o (by decide), zst_o (by decide)]; exact zst_if.trans (by rw [zst_o (by decide)])
  · rw [zst_o (by decide), zst_o (by decide), zst_o (by decide), zst_o (by decide), zst_o (by decide)]; exact zst_if.trans (by rw [zst_o (by decide), zst_o (by decide)])
  · rw [zst_o (by decide), zst_o (by decide), zst_o (by decide), zst_o (by decide)]; exact zst_if.trans (by rw [zst_o (by decide), zst_o (by decide), zst_o (by decide)])
  · rw [zst_o (by decide), zst_o (by decide), zst_o (by decide)]; exact zst_if.trans (by rw [zst_o (by decide), zst_o (by decide), zst_o (by decide), zst_o (by decide)])
  · rw [zst_o (by decide), zst_o (by decide)]; exact zst_if.trans (by rw [zst_o (by decide), zst_o (by decide), zst_o (by decide), zst_o (by decide), zst_o (by decide)])
  · rw [zst_o (by decide)]; exact zst_if.trans (by rw [zst_o (by decide), zst_o (by decide), zst_o (by decide), zst_o (by decide), zst_o (by decide), zst_o (by decide)])
theorem zcM_o {τ : zt_St} {a b : Nat} {F : Nat → Int32} (h : b < 94 ∨ 94 < b ∧ b < 114 ∨ 120 < b) : zcM τ a F b = τ b := by
  unfold zcM
  rw [zst_o (by omega), zst_o (by omega), zst_o (by omega), zst_o (by omega), zst_o (by omega), zst_o (by omega), zst_o (by omega), zst_o (by omega)]
theorem zcM_j {τ : zt_St} {a j : Nat} {F : Nat → Int32} (h : j ≠ 24) : zcM τ a F 94 j = τ 94 j := by
  unfold zcM
  rw [zst_j h, zst_o (by omega), zst_o (by omega), zst_o (by omega), zst_o (by omega), zst_o (by omega), zst_o (by omega), zst_o (by omega)]
theorem zcM_24 {τ : zt_St} {a : Nat} {F : Nat → Int32} : zcM τ a F 94 24 = nI (a + 1) := zst_s
theorem z9k20 {τ : zt_St} {a kd : Nat} {F : Nat → Int32} (ha : τ 94 24 = nI a) (h40 : a ≤ 40) (hkd : kd < 7) (f2 : F 2 = nI kd) (f3 : F 3 = if kd = 0 then τ 94 32 else -1) (f4 : τ 94 33 = F 4) (f5 : τ 94 34 = F 5) (f6 : τ 94 1 = F 6) : f_X9_keeps_20 τ (F 0) (F 1) (nI kd) = if a < 40 then some (zcM τ a F) else f_X9_shifts (zcM τ a F) (nI 0) := by
  unfold f_X9_keeps_20 f_X9_keeps_70
  have g : ∀ x, (zt_st (zt_st (zt_st (zt_st (zt_st (zt_st (zt_st (zt_st τ 114 a (F 0)) 115 a (F 1)) 116 a (nI kd)) 117 a x) 118 a (F 4)) 119 a (F 5)) 120 a (F 6)) 94 24 (nI (a + 1))) 94 24 = nI (a + 1) := fun x => zst_s
  simp only [zlt_e, ha, zgd_i (show a < 41 by omega) (show 41 < 2 ^ 31 by decide), nI_clamp (show a < 2 ^ 31 by omega), zst_o (show 94 ≠ 114 by decide), zst_o (show 94 ≠ 115 by decide), zst_o (show 94 ≠ 116 by decide), zst_o (show 94 ≠ 117 by decide), zst_o (show 94 ≠ 118 by decide), zst_o (show 94 ≠ 119 by decide), zst_o (show 94 ≠ 120 by decide), f4, f5, f6, nI_1, g]
  have e : (if nI kd = 0 then τ 94 32 else (-1 : Int32)) = F 3 := by
    rw [f3]
    by_cases c1 : kd = 0
    · rw [if_pos c1, if_pos (by rw [c1]; rfl)]
    · rw [if_neg c1, if_neg (nI_ne0 (by omega) (by omega))]
  have m : ∀ (x : Int32), F 3 = x → (if nI (a + 1) ≤ 40 then some (zt_st (zt_st (zt_st (zt_st (zt_st (zt_st (zt_st (zt_st τ 114 a (F 0)) 115 a (F 1)) 116 a (nI kd)) 117 a x) 118 a (F 4)) 119 a (F 5)) 120 a (F 6)) 94 24 (nI (a + 1))) else zt_bd (f_X9_shifts (zt_st (zt_st (zt_st (zt_st (zt_st (zt_st (zt_st (zt_st τ 114 a (F 0)) 115 a (F 1)) 116 a (nI kd)) 117 a x) 118 a (F 4)) 119 a (F 5)) 120 a (F 6)) 94 24 (nI (a + 1))) 0) fun σ24 => some σ24) = if a < 40 then some (zcM τ a F) else f_X9_shifts (zcM τ a F) (nI 0) := by
    intro x hx
    subst hx
    rw [← f2]
    show (if nI (a + 1) ≤ 40 then some (zcM τ a F) else zt_bd (f_X9_shifts (zcM τ a F) 0) fun σ24 => some σ24) = _
    by_cases c1 : a < 40
    · rw [if_pos c1, zl_40, if_pos (nI_le (by omega) (by omega))]
    · rw [if_neg c1, zl_40, if_neg (nI_ge (by omega) (by omega)), ← zl_0]
      cases f_X9_shifts (zcM τ a F) 0 <;> rfl
  by_cases c1 : nI kd = 0
  · rw [if_pos c1] at e ⊢
    exact m _ e.symm
  · rw [if_neg c1] at e ⊢
    exact m _ e.symm
def zIK (σ τ : zt_St) (c now t : Nat) : Prop := σ 81 8 = nI c ∧ τ 94 24 = nI c ∧ c ≤ 40 ∧ σ 81 9 = nI t ∧ ∃ w ρ, zKd σ τ w ρ c now t
/-- what an answer that is kept is -/
def zFG (F : Nat → Int32) (now : Nat) : Prop := ∃ kd l, F 2 = nI kd ∧ (kd = 0 ∨ kd = 1 ∨ kd = 2 ∨ kd = 4) ∧ F 5 = nI l ∧ l ≤ 50 ∧ F 6 = nI now ∧ (kd = 4 → ∃ m, znm m = true ∧ F 4 = nI m) ∧ (kd ≠ 0 → F 3 = -1)
theorem zFGg {F : Nat → Int32} {now r : Nat} {τ : zt_St} (h : zFG F now) (e : ∀ i, i < 7 → τ (114 + i) r = F i) : zKg τ now r := by
  obtain ⟨kd, l, g1, g2, g3, g4, g5, g6, g7⟩ := h
  exact ⟨kd, l, now, (e 2 (by decide)).trans g1, g2, (e 5 (by decide)).trans g3, g4, (e 6 (by decide)).trans g5, Nat.le_refl _, fun q => (g6 q).imp fun m z => ⟨z.1, (e 4 (by decide)).trans z.2⟩, fun q => (e 3 (by decide)).trans (g7 q)⟩
theorem zKeep {σ τ : zt_St} {c now t kd : Nat} {F : Nat → Int32} (h : zIK σ τ c now t) (ht : t < 2 ^ 31) (hF : zFG F now) (hkd : kd < 7) (f2' : F 2 = nI kd) (f2 : σ 91 0 = F 2) (f3 : σ 91 1 = F 3) (f4 : σ 91 2 = F 4) (f5 : σ 91 3 = F 5) (g3 : F 3 = if kd = 0 then τ 94 32 else -1) (g4 : τ 94 33 = F 4) (g5 : τ 94 34 = F 5) (g6 : τ 94 1 = F 6) :
    ∃ σ' τ' c', f_X2_keepAnswer σ (F 0) (F 1) 91 (F 6) = some σ' ∧ f_X9_keeps τ (F 0) (F 1) (nI kd) = some τ' ∧ zIK σ' τ' c' now (t + 1) ∧ (∀ a, a < 81 ∨ 89 < a → σ' a = σ a) ∧ (∀ a, a < 94 ∨ 94 < a ∧ a < 114 ∨ 120 < a → τ' a = τ a) ∧ ∀ j, j ≠ 24 → τ' 94 j = τ 94 j := by
  obtain ⟨h8, h24, h40, h9, w, ρ, hK⟩ := h
  rcases z2keep hK ht h40 h8 h9 f2 f3 f4 f5 with ⟨r0, hr0, n0, n1, hfi, hC⟩ | ⟨hfi, hno, ⟨hc, hC⟩ | ⟨hc, hC⟩⟩
  · obtain ⟨τs, s0, s1, s2, s3, s4⟩ := @z9sh (c - 1) r0 τ (by omega) (by omega) (by rw [Nat.sub_add_cancel (by omega)]; exact h24)
    have k20 := @z9k20 τs (c - 1) kd F s1 (by omega) hkd f2' (by rw [s3 32 (by decide)]; exact g3) (by rw [s3 33 (by decide)]; exact g4) (by rw [s3 34 (by decide)]; exact g5) (by rw [s3 1 (by decide)]; exact g6)
    rw [if_pos (by omega)] at k20
    have hm : ∀ e, e < 7 → zcM τs (c - 1) F (114 + e) (c - 1) = F e := fun e he => (zcM_s e he _).trans (if_pos rfl)
    obtain ⟨w', ρ', q⟩ := @zKrep σ τ (zcC σ (ρ r0) F t) (zcM τs (c - 1) F) w ρ c r0 now t F hK ht hr0 zcC_s zcC_t (fun e he => ⟨hm e he, fun r hr => by
      rw [zcM_s e he, if_neg (by omega), s4 _ (by omega) (by omega)]
      by_cases c1 : r0 ≤ r
      · rw [if_pos c1, if_pos ⟨c1, hr⟩]
      · rw [if_neg c1, if_neg (fun z => c1 z.1)]⟩)
      (fun r hr hne z => hne (hK.2.2.2 r r0 hr hr0 (z.1.trans n0.symm) (z.2.trans n1.symm))) (zFGg hF hm)
    refine ⟨_, zcM τs (c - 1) F, c, hC, ?_, ⟨zcC_8.1.trans h8, by rw [zcM_24, Nat.sub_add_cancel (by omega)], h40, zcC_8.2, w', ρ', q⟩, fun a ha => zcC_o ha, fun a ha => (zcM_o ha).trans (s2 a ha), fun j hj => (zcM_j hj).trans (s3 j hj)⟩
    unfold f_X9_keeps
    rw [z9ko h24 h40, hfi, zbd_s, if_neg (oI_1 (by omega))]
    show zt_bd (f_X9_shifts τ (nI (0 + r0))) _ = _
    rw [Nat.zero_add, s0]
    exact k20
  · have k20 := @z9k20 τ c kd F h24 h40 hkd f2' g3 g4 g5 g6
    rw [if_pos hc] at k20
    have hm : ∀ e, e < 7 → zcM τ c F (114 + e) c = F e := fun e he => (zcM_s e he _).trans (if_pos rfl)
    obtain ⟨w', ρ', q⟩ := @zKapp σ τ (zcC (zt_st σ 81 8 (nI (c + 1))) c F t) (zcM τ c F) w ρ c now t F hK (fun e he j => (zcC_s e he j).trans (by rw [zst_o (by omega)])) (fun j => (zcC_t j).trans (by rw [zst_o (by omega)]))
      (fun e he => ⟨hm e he, fun r hr => by rw [zcM_s e he, if_neg (by omega)]⟩) hno (zFGg hF hm)
    refine ⟨_, zcM τ c F, c + 1, hC, ?_, ⟨zcC_8.1.trans zst_s, zcM_24, by omega, zcC_8.2, w', ρ', q⟩, fun a ha => (zcC_o ha).trans (zst_o (by omega)), fun a ha => zcM_o ha, fun j hj => zcM_j hj⟩
    unfold f_X9_keeps
    rw [z9ko h24 h40, hfi, zbd_s, if_pos (show oI 0 none = -1 from rfl)]
    exact k20
  · have k20 := @z9k20 τ c kd F h24 h40 hkd f2' g3 g4 g5 g6
    rw [if_neg (by omega)] at k20
    obtain ⟨τs, s0, s1, s2, s3, s4⟩ := @z9sh 40 0 (zcM τ c F) (by omega) (by omega) (by rw [hc]; exact zcM_24)
    have hm : ∀ e, e < 7 → τs (114 + e) 39 = F e := fun e he => by
      rw [s4 _ (by omega) (by omega), if_pos (by omega), zcM_s e he, if_pos (by omega)]
    obtain ⟨w', ρ', q⟩ := @zKrep σ τ (zcC σ (ρ 0) F t) τs w ρ c 0 now t F hK ht (by omega) zcC_s zcC_t (fun e he => ⟨by rw [show c - 1 = 39 by omega]; exact hm e he, fun r hr => by
      rw [s4 _ (by omega) (by omega), if_pos (by omega), zcM_s e he, if_neg (by omega), if_pos (by omega)]⟩)
      (fun r hr hne => hno r hr) (by rw [show c - 1 = 39 by omega]; exact zFGg hF hm)
    refine ⟨_, τs, c, hC, ?_, ⟨zcC_8.1.trans h8, by rw [s1, hc], h40, zcC_8.2, w', ρ', q⟩, fun a ha => zcC_o ha, fun a ha => (s2 a ha).trans (zcM_o ha), fun j hj => (s3 j hj).trans (zcM_j hj)⟩
    unfold f_X9_keeps
    rw [z9ko h24 h40, hfi, zbd_s, if_pos (show oI 0 none = -1 from rfl), k20]
    exact s0
