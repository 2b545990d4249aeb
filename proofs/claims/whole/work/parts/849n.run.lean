/-! a resolver's run, in both -/
def zF2 (k : Nat) (σ σ' : zt_St) : Prop := (∀ a, a < 80 ∨ 91 < a ∧ a ≠ k → σ' a = σ a) ∧ σ' 80 3 = σ 80 3 ∧ σ' 80 4 = σ 80 4
def zG2 (τ τ' : zt_St) : Prop := (∀ a, a < 94 ∨ 94 < a ∧ a < 113 ∨ 121 < a → τ' a = τ a) ∧ ∀ j, j ≠ 24 → j ≠ 32 → j ≠ 33 → j ≠ 34 → j ≠ 36 → τ' 94 j = τ 94 j
theorem zF2_r {k : Nat} {σ : zt_St} : zF2 k σ σ := ⟨fun _ _ => rfl, rfl, rfl⟩
theorem zG2_r {σ : zt_St} : zG2 σ σ := ⟨fun _ _ => rfl, fun _ _ _ _ _ _ => rfl⟩
theorem zF2_t {k : Nat} {σ σ1 σ2 : zt_St} (h : zF2 k σ σ1) (h2 : zF2 k σ1 σ2) : zF2 k σ σ2 := ⟨fun a q => (h2.1 a q).trans (h.1 a q), h2.2.1.trans h.2.1, h2.2.2.trans h.2.2⟩
theorem zG2_t {σ σ1 σ2 : zt_St} (h : zG2 σ σ1) (h2 : zG2 σ1 σ2) : zG2 σ σ2 := ⟨fun a q => (h2.1 a q).trans (h.1 a q), fun j a b c d e => (h2.2 j a b c d e).trans (h.2 j a b c d e)⟩
theorem zF2_F {k : Nat} {σ σ1 : zt_St} (h : zFr σ σ1) : zF2 k σ σ1 := ⟨fun a q => h.1 a (by omega), h.2 3 (by decide) (by decide) (by decide) (by decide), h.2 4 (by decide) (by decide) (by decide) (by decide)⟩
theorem zG2_G {σ σ1 : zt_St} (h : zGr σ σ1) : zG2 σ σ1 := ⟨fun a q => h.1 a (by omega), fun j a b c d _ => h.2 j a b c d⟩
theorem zF2_8 {k j : Nat} {σ : zt_St} {x : Int32} (h : j ≠ 3 ∧ j ≠ 4) : zF2 k σ (zt_st σ 80 j x) := ⟨fun a q => zst_o (by omega), zst_j h.1.symm, zst_j h.2.symm⟩
def zTl (σ τ : zt_St) (k : Nat) : Prop := τ 121 0 = σ k 1 ∧ τ 121 1 = σ k 2 ∧ τ 121 2 = σ k 3 ∧ τ 121 3 = σ k 4 ∧ τ 121 4 = σ k 5 ∧ (σ k 5 = 0 ∨ σ k 5 = 1)
def zRes (k now B : Nat) (tl : Bool) (σ τ : zt_St) (rC : Option zt_St) (rM : Option (Int32 × zt_St)) : Prop := ∃ σ' τ' kd c' t', rC = some σ' ∧ rM = some (nI kd, τ') ∧ zIK σ' τ' c' now t' ∧ t' ≤ B ∧ σ' 90 = τ' 113 ∧ zF2 k σ σ' ∧ zG2 τ τ' ∧ (kd = 0 ∨ kd = 1 ∨ kd = 2 ∨ kd = 6) ∧ σ' k 0 = nI kd ∧ (tl = false → τ' 121 = τ 121) ∧ (tl = true → zTl σ' τ' k) ∧ (kd ≠ 6 → σ' 80 14 = τ' 94 36)
theorem zRes_t {k now B : Nat} {tl : Bool} {σ τ σ1 τ1 : zt_St} {rC : Option zt_St} {rM : Option (Int32 × zt_St)} (h : zRes k now B tl σ1 τ1 rC rM) (h1 : zF2 k σ σ1) (h2 : zG2 τ τ1) (h3 : τ1 121 = τ 121) : zRes k now B tl σ τ rC rM := by
  obtain ⟨σ', τ', kd, c', t', a1, a2, a3, a4, a5, a6, a7, a8, a9, a10, a11⟩ := h
  exact ⟨σ', τ', kd, c', t', a1, a2, a3, a4, a5, zF2_t h1 a6, zG2_t h2 a7, a8, a9, fun e => (a10 e).trans h3, a11⟩
def zfe (σ : zt_St) (k : Nat) (a b c d x y : Int32) : zt_St := zt_st (zt_st (zte σ k a b c d) k 4 x) k 5 y
theorem zfe_o {σ : zt_St} {k e : Nat} {a b c d x y : Int32} (h : e ≠ k) : zfe σ k a b c d x y e = σ e := by unfold zfe; rw [zst_o h, zst_o h, zte_o h]
theorem zfe_v {σ : zt_St} {k : Nat} {a b c d x y : Int32} : zfe σ k a b c d x y k 0 = a ∧ zfe σ k a b c d x y k 1 = b ∧ zfe σ k a b c d x y k 2 = c ∧ zfe σ k a b c d x y k 3 = d ∧ zfe σ k a b c d x y k 4 = x ∧ zfe σ k a b c d x y k 5 = y := by
  unfold zfe
  refine ⟨?_, ?_, ?_, ?_, ?_, zst_s⟩
  · rw [zst_j (by decide), zst_j (by decide), zte_0]
  · rw [zst_j (by decide), zst_j (by decide), zte_1]
  · rw [zst_j (by decide), zst_j (by decide), zte_2]
  · rw [zst_j (by decide), zst_j (by decide), zte_3]
  · rw [zst_j (by decide), zst_s]
theorem z5f84 {σ : zt_St} {k : Nat} {o : Bool} {a b c d x : Int32} (hk : k ≠ 80) (h10 : σ 80 10 = x) (h12 : σ 80 12 = zb o) : f_X5_finish_84 k (zte σ k a b c d) = some (zfe σ k a b c d x (zb o)) := by
  unfold f_X5_finish_84
  rw [zte_o hk.symm, h10, zlt_e, zst_o hk.symm, zte_o hk.symm, h12, zbg, zgd_t, zlt_e]
  rfl
theorem z5fin {σ : zt_St} {k kd : Nat} {o : Bool} {x : Int32} (hk : k ≠ 80) (h10 : σ 80 10 = x) (h12 : σ 80 12 = zb o) (h0 : σ 91 0 = nI kd) (hkd : kd = 0 ∨ kd = 1 ∨ kd = 2) : f_X5_finish σ k = some (zfe σ k (nI kd) (σ 91 1) (σ 91 2) (if o = true then 0 else σ 80 9) x (zb o)) := by
  have e : f_X5_finish_32 k σ = some (zfe σ k (nI kd) (σ 91 1) (σ 91 2) (if o = true then 0 else σ 80 9) x (zb o)) := by
    unfold f_X5_finish_32 f_X5_finish_69
    rw [h12, h0]
    cases o with
    | true => rw [if_neg (show ¬ zb true = 0 by decide), if_pos rfl, z0tell, zbd_s]; exact z5f84 hk h10 h12
    | false => rw [if_pos (show zb false = 0 from rfl), if_neg (show ¬ false = true by decide), z0tell, zbd_s]; exact z5f84 hk h10 h12
  unfold f_X5_finish
  rw [h0, e]
  rcases hkd with q | q | q <;> subst q
  · rw [if_pos (show nI 0 = 0 from rfl)]
  · rw [if_neg (show ¬ nI 1 = 0 by decide), if_pos (show nI 1 = 1 from rfl)]
  · rw [if_neg (show ¬ nI 2 = 0 by decide), if_neg (show ¬ nI 2 = 1 by decide), if_pos (show nI 2 = 2 from rfl)]
theorem z5fiF {σ : zt_St} {k kd : Nat} {o : Bool} {x : Int32} (hk : k ≠ 80) (h10 : σ 80 10 = x) (h12 : σ 80 12 = zb o) (h0 : σ 91 0 = nI kd) (hkd : kd = 4 ∨ kd = 5 ∨ kd = 6) : f_X5_finish σ k = some (zfe σ k 6 (-1) (-1) 0 x (zb o)) := by
  unfold f_X5_finish
  rw [h0, z0tell, zbd_s, z5f84 hk h10 h12]
  rcases hkd with q | q | q <;> subst q
  · rw [if_neg (show ¬ nI 4 = 0 by decide), if_neg (show ¬ nI 4 = 1 by decide), if_neg (show ¬ nI 4 = 2 by decide)]
  · rw [if_neg (show ¬ nI 5 = 0 by decide), if_neg (show ¬ nI 5 = 1 by decide), if_neg (show ¬ nI 5 = 2 by decide)]
  · rw [if_neg (show ¬ nI 6 = 0 by decide), if_neg (show ¬ nI 6 = 1 by decide), if_neg (show ¬ nI 6 = 2 by decide)]
def ztl (τ : zt_St) (a b c d e : Int32) : zt_St := zt_st (zt_st (zt_st (zt_st (zt_st τ 121 0 a) 121 1 b) 121 2 c) 121 3 d) 121 4 e
theorem z9tel {τ : zt_St} {a b c d e : Int32} : f_X9_tell τ a b c d e = some (ztl τ a b c d e) := rfl
theorem ztl_o {τ : zt_St} {a b c d e : Int32} {k : Nat} (h : k ≠ 121) : ztl τ a b c d e k = τ k := by unfold ztl; rw [zst_o h, zst_o h, zst_o h, zst_o h, zst_o h]
theorem ztl_v {τ : zt_St} {a b c d e : Int32} : ztl τ a b c d e 121 0 = a ∧ ztl τ a b c d e 121 1 = b ∧ ztl τ a b c d e 121 2 = c ∧ ztl τ a b c d e 121 3 = d ∧ ztl τ a b c d e 121 4 = e := by
  unfold ztl
  refine ⟨?_, ?_, ?_, ?_, zst_s⟩
  · rw [zst_j (by decide), zst_j (by decide), zst_j (by decide), zst_j (by decide), zst_s]
  · rw [zst_j (by decide), zst_j (by decide), zst_j (by decide), zst_s]
  · rw [zst_j (by decide), zst_j (by decide), zst_s]
  · rw [zst_j (by decide), zst_s]
theorem zb01 {o : Bool} : zb o = 0 ∨ zb o = 1 := by cases o <;> decide
theorem ztl_G {τ : zt_St} {a b c d e : Int32} : zG2 τ (ztl τ a b c d e) := ⟨fun a q => ztl_o (by omega), fun j _ _ _ _ _ => by rw [ztl_o (by decide)]⟩
theorem zfe_F {σ : zt_St} {k : Nat} {a b c d x y : Int32} (hk : k = 92 ∨ k = 93) : zF2 k σ (zfe σ k a b c d x y) := ⟨fun a q => zfe_o (by omega), by rw [zfe_o (by omega)], by rw [zfe_o (by omega)]⟩
/-- both end in vain -/
theorem zEndF {k now B c t kd Q : Nat} {tl o : Bool} {σ τ : zt_St} (hk : k = 92 ∨ k = 93) (hK : zIK σ τ c now t) (hB : t ≤ B) (hu : σ 90 = τ 113) (h10 : σ 80 10 = nI Q) (h12 : σ 80 12 = zb o) (h0 : σ 91 0 = nI kd) (hkd : kd = 4 ∨ kd = 5 ∨ kd = 6) : zRes k now B tl σ τ (f_X5_finish σ k) (f_X9_fails τ (nI Q) (zb o) (zb tl)) := by
  have e := z5fiF (k := k) (by omega) h10 h12 h0 hkd
  obtain ⟨v0, v1, v2, v3, v4, v5⟩ := @zfe_v σ k 6 (-1) (-1) 0 (nI Q) (zb o)
  unfold f_X9_fails
  cases tl with
  | false =>
    rw [if_pos (show zb false = 0 from rfl)]
    exact ⟨_, τ, 6, c, t, e, rfl, zIK_f hK (fun a _ _ => zfe_o (by omega)) (fun _ _ _ => rfl) rfl, hB, by rw [zfe_o (by omega)]; exact hu, zfe_F hk, zG2_r, by omega, v0, fun _ => rfl, fun q => (nomatch q), fun q => absurd rfl q⟩
  | true =>
    obtain ⟨u0, u1, u2, u3, u4⟩ := @ztl_v τ (-1) (-1) 0 (nI Q) (zb o)
    rw [if_neg (show ¬ zb true = 0 by decide), z9tel, zbd_s]
    exact ⟨_, _, 6, c, t, e, rfl, zIK_f hK (fun a _ _ => zfe_o (by omega)) (fun a _ _ => ztl_o (by omega)) (by rw [ztl_o (by decide)]), hB, by rw [zfe_o (by omega), ztl_o (by decide)]; exact hu, zfe_F hk, ztl_G, by omega, v0, fun q => (nomatch q), fun _ => ⟨u0.trans v1.symm, u1.trans v2.symm, u2.trans v3.symm, u3.trans v4.symm, u4.trans v5.symm, by rw [v5]; exact zb01⟩, fun q => absurd rfl q⟩
/-- both end with an answer -/
theorem zEndR {k now B c t kd Q : Nat} {tl o : Bool} {σ τ : zt_St} {U : Int32} {rM : Option (Int32 × zt_St)} (hk : k = 92 ∨ k = 93) (hK : zIK σ τ c now t) (hB : t ≤ B) (hu : σ 90 = τ 113) (h10 : σ 80 10 = nI Q) (h12 : σ 80 12 = zb o) (h0 : σ 91 0 = nI kd) (hkd : kd = 0 ∨ kd = 1 ∨ kd = 2) (h1 : σ 91 1 = if kd = 0 then τ 94 32 else -1) (h2 : σ 91 2 = τ 94 33) (h9 : o = false → σ 80 9 = U) (h14 : σ 80 14 = τ 94 36)
    (hM : rM = if zb tl = 0 then some (nI kd, τ) else if nI kd = 0 then f_X9_resolves_517 τ (τ 94 32) (nI Q) U (zb o) (nI kd) else f_X9_resolves_517 τ (-1) (nI Q) U (zb o) (nI kd)) : zRes k now B tl σ τ (f_X5_finish σ k) rM := by
  have e := z5fin (k := k) (by omega) h10 h12 h0 hkd
  obtain ⟨v0, v1, v2, v3, v4, v5⟩ := @zfe_v σ k (nI kd) (σ 91 1) (σ 91 2) (if o = true then 0 else σ 80 9) (nI Q) (zb o)
  cases tl with
  | false =>
    rw [if_pos (show zb false = 0 from rfl)] at hM
    exact ⟨_, τ, kd, c, t, e, hM, zIK_f hK (fun a _ _ => zfe_o (by omega)) (fun _ _ _ => rfl) rfl, hB, by rw [zfe_o (by omega)]; exact hu, zfe_F hk, zG2_r, by omega, v0, fun _ => rfl, fun q => (nomatch q), fun _ => by rw [zfe_o (by omega)]; exact h14⟩
  | true =>
    obtain ⟨u0, u1, u2, u3, u4⟩ := @ztl_v τ (σ 91 1) (σ 91 2) (if o = true then 0 else σ 80 9) (nI Q) (zb o)
    have e17 : ∀ y, f_X9_resolves_517 τ y (nI Q) U (zb o) (nI kd) = some (nI kd, ztl τ y (σ 91 2) (if o = true then 0 else σ 80 9) (nI Q) (zb o)) := fun y => by
      unfold f_X9_resolves_517 f_X9_resolves_533
      rw [z9tel, z9tel, zbd_s, zbd_s, h2]
      cases o with
      | true => rw [if_pos (show zb true = 1 from rfl), if_pos rfl]
      | false => rw [if_neg (show ¬ zb false = 1 by decide), if_neg (show ¬ false = true by decide), h9 rfl]
    have eM : rM = some (nI kd, ztl τ (σ 91 1) (σ 91 2) (if o = true then 0 else σ 80 9) (nI Q) (zb o)) := by
      rw [hM, if_neg (show ¬ zb true = 0 by decide), e17, e17]
      by_cases c0 : kd = 0
      · rw [if_pos (show nI kd = 0 by rw [c0]; rfl), h1, if_pos c0]
      · rw [if_neg (nI_ne0 (by omega) (by omega)), h1, if_neg c0]
    exact ⟨_, _, kd, c, t, e, eM, zIK_f hK (fun a _ _ => zfe_o (by omega)) (fun a _ _ => ztl_o (by omega)) (by rw [ztl_o (by decide)]), hB, by rw [zfe_o (by omega), ztl_o (by decide)]; exact hu, zfe_F hk, ztl_G, by omega, v0, fun q => (nomatch q), fun _ => ⟨u0.trans v1.symm, u1.trans v2.symm, u2.trans v3.symm, u3.trans v4.symm, u4.trans v5.symm, by rw [v5]; exact zb01⟩, fun _ => by rw [zfe_o (by omega), ztl_o (by decide)]; exact h14⟩
