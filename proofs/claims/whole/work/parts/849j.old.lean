/-! one step of a resolver: what both come to; old answers -/
abbrev zRec : Type := zt_St → Int32 → Int32 → Int32 → Int32 → Int32 → Int32 → Int32 → Int32 → Int32 → Int32 → Option (Int32 × zt_St)
def zOut (rc : zRec) (σ τ σ5 : zt_St) (Z : Nat × (Nat → Nat)) (now T n s Q : Nat) (aw tl o : Bool) (ld U : Int32) (ref : Option (Int32 × zt_St)) : Prop :=
  ∃ τ5 c' t', zIK σ5 τ5 c' now t' ∧ t' ≤ T ∧ zFr σ σ5 ∧ zGr τ τ5 ∧ σ5 90 = τ5 113 ∧ σ5 80 10 = nI Q ∧ (
   ((σ5 91 0 = nI 5 ∨ σ5 91 0 = nI 6) ∧ σ5 80 12 = zb o ∧ ref = f_X9_fails τ5 (nI Q) (zb o) (zb tl)) ∨
   (∃ kd o' z5 tr5, (kd = 0 ∨ kd = 1 ∨ kd = 2 ∨ kd = 4) ∧ σ5 91 0 = nI kd ∧ σ5 91 1 = (if kd = 0 then τ5 94 32 else -1) ∧ σ5 91 2 = τ5 94 33 ∧ σ5 80 12 = zb o' ∧ (o' = false → o = false ∧ ∃ l, l ≤ 50 ∧ σ5 91 3 = nI l ∧ τ5 94 34 = nI l) ∧ (kd = 4 → ∃ m, znm m = true ∧ τ5 94 33 = nI m) ∧ σ5 80 13 = tr5 ∧ ref = f_X9_resolves_449 rc τ5 (nI s) (zb aw) (zb tl) (nI n) (nI Q) ld U (zb o') z5 tr5 (nI kd)) ∨
   (∃ v tr5 σ6, v < Z.1 ∧ zun n (Z.2 v) = true ∧ σ5 91 0 = nI 3 ∧ f_X5_goDown σ5 = some σ6 ∧ (∀ a, a ≠ 80 → σ6 a = σ5 a) ∧ (∀ j, j ≠ 8 → j ≠ 13 → σ6 80 j = σ5 80 j) ∧ σ6 80 8 = nI v ∧ σ5 80 12 = zb o ∧ σ6 80 13 = tr5 ∧ ref = f_X9_resolves_449 rc τ5 (nI s) (zb aw) (zb tl) (nI n) (nI Q) ld U (zb o) (nI v) tr5 (nI 3)))
theorem zte_0 {σ : zt_St} {k : Nat} {a b c d : Int32} : zte σ k a b c d k 0 = a := by unfold zte; rw [zst_j (by decide), zst_j (by decide), zst_j (by decide), zst_s]
theorem zte_1 {σ : zt_St} {k : Nat} {a b c d : Int32} : zte σ k a b c d k 1 = b := by unfold zte; rw [zst_j (by decide), zst_j (by decide), zst_s]
theorem zte_2 {σ : zt_St} {k : Nat} {a b c d : Int32} : zte σ k a b c d k 2 = c := by unfold zte; rw [zst_j (by decide), zst_s]
theorem zte_3 {σ : zt_St} {k : Nat} {a b c d : Int32} : zte σ k a b c d k 3 = d := by unfold zte; rw [zst_s]
theorem zte_j {σ : zt_St} {k j : Nat} {a b c d : Int32} (h : 4 ≤ j) : zte σ k a b c d k j = σ k j := by unfold zte; rw [zst_j (by omega), zst_j (by omega), zst_j (by omega), zst_j (by omega)]
theorem zfl {x : Option (Int32 × zt_St)} : (zt_bd x fun q => zt_lt q.1 fun v => zt_lt q.2 fun σ => some (v, σ)) = x := by cases x <;> rfl
/-- what is kept in a row -/
theorem zKrow {σ τ : zt_St} {w ρ : Nat → Nat} {c now t r : Nat} (h : zKd σ τ w ρ c now t) (hr : r < c) : ∃ kd l tm, (kd = 0 ∨ kd = 1 ∨ kd = 2 ∨ kd = 4) ∧ σ 84 (ρ r) = nI kd ∧ τ 116 r = nI kd ∧ σ 85 (ρ r) = τ 117 r ∧ σ 86 (ρ r) = τ 118 r ∧ σ 87 (ρ r) = nI l ∧ τ 119 r = nI l ∧ σ 88 (ρ r) = nI tm ∧ τ 120 r = nI tm ∧ tm ≤ now ∧ l ≤ 50 ∧ (kd = 4 → ∃ m, znm m = true ∧ τ 118 r = nI m) ∧ (kd ≠ 0 → τ 117 r = -1) ∧ ρ r < c := by
  obtain ⟨a1, a2, a3, a4, kd, l, tm, g1, g2, g3, g4, g5, g6, g7, g8⟩ := h.1 r hr
  have e2 : σ 84 (ρ r) = τ 116 r := a2 2 (by decide)
  have e3 : σ 85 (ρ r) = τ 117 r := a2 3 (by decide)
  have e4 : σ 86 (ρ r) = τ 118 r := a2 4 (by decide)
  have e5 : σ 87 (ρ r) = τ 119 r := a2 5 (by decide)
  have e6 : σ 88 (ρ r) = τ 120 r := a2 6 (by decide)
  exact ⟨kd, l, tm, g2, e2.trans g1, g1, e3, e4, e5.trans g3, g3, e6.trans g5, g5, g6, g4, g7, g8, a1⟩
theorem z2rea {σ : zt_St} {c j : Nat} {x : Int32} (hc : σ 81 8 = nI c) (h40 : c ≤ 40) (hj : j < c) : f_X2_read σ (nI j) x 91 = some (zte σ 91 (σ 84 j) (σ 85 j) (σ 86 j) (σ 88 j + σ 87 j - x)) := by
  unfold f_X2_read
  rw [z2isr hc h40 hj, zbd_s, if_neg (show ¬ nI 1 = 0 by decide), zgd_i (by omega) (by decide), zgd_i (by omega) (by decide), zgd_i (by omega) (by decide), zgd_i (by omega) (by decide), zgd_i (by omega) (by decide), nI_clamp (by omega)]
  rfl
theorem z2old {σ : zt_St} {c j : Nat} {x : Int32} (hc : σ 81 8 = nI c) (h40 : c ≤ 40) (hj : j < c) : f_X2_isUsableAsOld σ (nI j) x = some (zb (!(decide (60 ≤ x - σ 88 j)))) := by
  unfold f_X2_isUsableAsOld
  rw [z2isr hc h40 hj, zbd_s, if_neg (show ¬ nI 1 = 0 by decide), zgd_i (by omega) (by decide), nI_clamp (by omega)]
  by_cases c1 : 60 ≤ x - σ 88 j
  · rw [if_pos c1, decide_eq_true c1]; rfl
  · rw [if_neg c1, decide_eq_false c1]; rfl
def ztk (τ : zt_St) (r : Nat) : zt_St := zt_st (zt_st (zt_st τ 94 32 (τ 117 r)) 94 33 (τ 118 r)) 94 34 0
theorem z9tak {τ : zt_St} {r : Nat} (h : r < 41) : f_X9_takes τ (nI r) = some (ztk τ r) := by
  unfold f_X9_takes
  rw [zgd_i h (by decide), nI_clamp (by omega), zlt_e, zgd_i h (by decide), zlt_e, zlt_e, zst_o (by decide)]
  rfl
theorem ztk_o {τ : zt_St} {r a : Nat} (h : a ≠ 94) : ztk τ r a = τ a := by unfold ztk; rw [zst_o h, zst_o h, zst_o h]
theorem ztk_j {τ : zt_St} {r j : Nat} (h2 : j ≠ 32) (h3 : j ≠ 33) (h4 : j ≠ 34) : ztk τ r 94 j = τ 94 j := by unfold ztk; rw [zst_j h4, zst_j h3, zst_j h2]
theorem ztk_2 {τ : zt_St} {r : Nat} : ztk τ r 94 32 = τ 117 r := by unfold ztk; rw [zst_j (by decide), zst_j (by decide), zst_s]
theorem ztk_3 {τ : zt_St} {r : Nat} : ztk τ r 94 33 = τ 118 r := by unfold ztk; rw [zst_j (by decide), zst_s]
theorem ztk_G {τ : zt_St} {r : Nat} : zGr τ (ztk τ r) := ⟨fun a h => ztk_o (by omega), fun j a b c d => ztk_j b c d⟩
/-- both fail -/
theorem zOutF {rc : zRec} {σ τ : zt_St} {Z : Nat × (Nat → Nat)} {now T t c n s Q : Nat} {aw tl o : Bool} {ld U : Int32} {ref : Option (Int32 × zt_St)} (hK : zIK σ τ c now t) (hT : t ≤ T) (hu : σ 90 = τ 113) (h10 : σ 80 10 = nI Q) (h12 : σ 80 12 = zb o) (hr : ref = f_X9_fails τ (nI Q) (zb o) (zb tl)) : zOut rc σ τ (zte σ 91 6 (-1) (-1) 0) Z now T n s Q aw tl o ld U ref :=
  ⟨τ, c, t, zIK_f hK (fun a _ _ => zte_o (by omega)) (fun _ _ _ => rfl) rfl, hT, zFr_k (fun a h => zte_o (by omega)), zGr_r, (congrFun rfl 90).trans ((zte_o (by decide)).trans hu), by rw [zte_o (by decide)]; exact h10, Or.inl ⟨Or.inr zte_0, by rw [zte_o (by decide)]; exact h12, hr⟩⟩
theorem zOld {rc : zRec} {σ τ : zt_St} {Z : Nat × (Nat → Nat)} {now t c n s Q : Nat} {aw tl o : Bool} {ld U z tr : Int32} (hK : zIK σ τ c now t) (h3 : σ 80 3 = nI now) (h1 : τ 94 1 = nI now) (hnow : now < 2 ^ 30) (hu : σ 90 = τ 113) (h5 : σ 80 5 = zb aw) (h6 : σ 80 6 = nI n) (h7 : σ 80 7 = nI s) (h10 : σ 80 10 = nI Q) (h12 : σ 80 12 = zb o) (h13 : σ 80 13 = tr) :
    ∃ σ5, f_X5_takeOldPart σ = some σ5 ∧ zOut rc σ τ σ5 Z now t n s Q aw tl o ld U (f_X9_resolves_231 rc τ (-1) (nI s) (zb aw) (zb tl) (nI n) (nI Q) ld U (zb o) z tr) := by
  have hK2 := hK
  obtain ⟨h8, h24, h40, h9, w, ρ, hd⟩ := hK
  have F1 : f_X5_takeOldPart_26 σ (-1) = some (zte σ 91 6 (-1) (-1) 0) := by
    unfold f_X5_takeOldPart_26 f_X2_isUsableAsOld
    rw [z2isN, zbd_s, if_pos (show nI 0 = 0 from rfl), zbd_s, if_pos rfl, z0tell]
    rfl
  have F2 : f_X9_resolves_254 rc τ (-1) (nI s) (zb aw) (zb tl) (nI n) (nI Q) ld U (zb o) z tr = f_X9_fails τ (nI Q) (zb o) (zb tl) := by
    unfold f_X9_resolves_254 f_X9_resolves_279
    rw [if_pos rfl]
    exact zfl
  unfold f_X5_takeOldPart f_X9_resolves_231
  rw [h5, h6, h7, if_pos rfl]
  cases aw with
  | true =>
    rw [if_neg (show ¬ zb true = 0 by decide), if_neg (show ¬ zb true = 0 by decide)]
    exact ⟨_, F1, zOutF hK2 (Nat.le_refl _) hu h10 h12 F2⟩
  | false =>
    rw [if_pos (show zb false = 0 from rfl), if_pos (show zb false = 0 from rfl), z2ro h8 h40, z9ko h24 h40]
    rcases @zKfi σ τ w ρ c now t (nI n) (nI s) hd with ⟨a1, a2, a3⟩ | ⟨r, hr, a1, a2, a3, a4⟩
    · rw [a1, a2]
      exact ⟨_, F1, zOutF hK2 (Nat.le_refl _) hu h10 h12 F2⟩
    · obtain ⟨kd, l, tm, k1, k2, k3, k4, k5, k6, k7, k8, k9, k10, k11, k12, k13, k14⟩ := zKrow hd hr
      rw [a1, a2, zbd_s, zbd_s]
      show ∃ σ5, f_X5_takeOldPart_26 σ (nI (0 + ρ r)) = some σ5 ∧ zOut rc σ τ σ5 Z now t n s Q false tl o ld U (f_X9_resolves_254 rc τ (nI (0 + r)) (nI s) (zb false) (zb tl) (nI n) (nI Q) ld U (zb o) z tr)
      rw [Nat.zero_add, Nat.zero_add]
      unfold f_X5_takeOldPart_26 f_X9_resolves_254 f_X9_resolves_279
      rw [z2old h8 h40 k14, zbd_s, if_neg (zm1 (by omega)), zgd_i (by omega) (by decide), nI_clamp (by omega), h3, k8, pk_sub (by omega), zl_60, h1, k9, nI_add]
      by_cases c1 : 60 ≤ now - tm
      · rw [decide_eq_true (nI_le c1 (by omega)), if_pos (show zb (!true) = 0 from rfl), if_neg (nI_nlt (by omega) (by omega)), z0tell, zbd_s]
        exact ⟨_, rfl, zOutF hK2 (Nat.le_refl _) hu h10 h12 zfl⟩
      · rw [decide_eq_false (nI_ge (by omega) (by omega)), if_neg (show ¬ zb (!false) = 0 by decide), if_pos (nI_lt (by omega) (by omega)), z2rea h8 h40 k14, zbd_s, zlt_e, zgd_i (by omega) (by decide), z9tak (by omega), zbd_s]
        refine ⟨_, rfl, ztk τ r, c, t, zIK_f hK2 (fun a _ _ => (zst_o (by omega)).trans (zte_o (by omega))) (fun a _ _ => ztk_o (by omega)) (ztk_j (by decide) (by decide) (by decide)), Nat.le_refl _, zFr_t (zFr_k (fun a h => zte_o (by omega))) (zFr_8 (by omega)), ztk_G, ?_, ?_, Or.inr (Or.inl ⟨kd, true, z, tr, k1, ?_, ?_, ?_, zst_s, fun q => (nomatch q), fun q => ?_, ?_, ?_⟩)⟩
        · rw [zst_o (by decide), zte_o (by decide), ztk_o (by decide)]; exact hu
        · rw [zst_j (by decide), zte_o (by decide)]; exact h10
        · rw [zst_o (by decide), zte_0]; exact k2
        · rw [zst_o (by decide), zte_1, ztk_2, k4]
          by_cases c2 : kd = 0
          · rw [if_pos c2]
          · rw [if_neg c2]; exact k13 c2
        · rw [zst_o (by decide), zte_2, ztk_3]; exact k5
        · rw [ztk_3]; exact k12 q
        · rw [zst_j (by decide), zte_o (by decide)]; exact h13
        · rw [k3]; rfl
